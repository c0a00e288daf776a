/-! PAIRS: people, racks, scribes, suits, lists -/
theorem p_person {M : jM} (hI : Inv M) {pay : Int} (hpay : -2147483648 ≤ pay ∧ pay ≤ 2147483647) {rent : Int} (hrent : -2147483648 ≤ rent ∧ rent ≤ 2147483647) {food : Int} (hfood : -2147483648 ≤ food ∧ food ≤ 2147483647) {pu : Int} (hpu : -2147483648 ≤ pu ∧ pu ≤ 2147483647) : jCt yX11_person cX11_person 6 (some .int) 2 [jR 0, jI pay, jI rent, jI food, jI pu] M (fun z M1 => jCt yX12_person cX12_person 6 (some .int) 2 [jR 928, jI pay, jI rent, jI food, jI pu] M1 (fun z2 M2 => z = z2 ∧ Inv M2)) := by
  have hC := hI.cr
  have hn := hC.cnt
  have hg := hC.rng
  refine jCt_of mt_yX11_person (Nat.le_of_ble_eq_true rfl) (fun X => ?_)
  refine e_iload_n (i := 1) 1 dX11_person_0 rfl rfl rfl ?_
  refine e_iconst 2 dX11_person_1 rfl ?_
  refine e_sipush 5 dX11_person_2 (by decide) rfl ?_
  refine e_callS 8 mt_yX11_within ms_yX11_within wd_531 (by decide) dX11_person_5 rfl rfl (Nat.le_of_ble_eq_true rfl) (jroom (by decide)) rfl (c_within (by omega) (by omega) (by omega) (fun w5 => ?_) (fun w5 => ?_))
  · dsimp only [jpush]
    refine e_if_eq 11 45 dX11_person_8 (by decide) (by decide) rfl (fun h => absurd h (by decide)) (fun _ => ?_)
    refine e_iload_n (i := 2) 12 dX11_person_11 rfl rfl rfl ?_
    refine e_iconst 13 dX11_person_12 rfl ?_
    refine e_sipush 16 dX11_person_13 (by decide) rfl ?_
    refine e_callS 19 mt_yX11_within ms_yX11_within wd_531 (by decide) dX11_person_16 rfl rfl (Nat.le_of_ble_eq_true rfl) (jroom (by decide)) rfl (c_within (by omega) (by omega) (by omega) (fun w16 => ?_) (fun w16 => ?_))
    · dsimp only [jpush]
      refine e_if_eq 22 45 dX11_person_19 (by decide) (by decide) rfl (fun h => absurd h (by decide)) (fun _ => ?_)
      refine e_iload_n (i := 3) 23 dX11_person_22 rfl rfl rfl ?_
      refine e_iconst 24 dX11_person_23 rfl ?_
      refine e_sipush 27 dX11_person_24 (by decide) rfl ?_
      refine e_callS 30 mt_yX11_within ms_yX11_within wd_531 (by decide) dX11_person_27 rfl rfl (Nat.le_of_ble_eq_true rfl) (jroom (by decide)) rfl (c_within (by omega) (by omega) (by omega) (fun w27 => ?_) (fun w27 => ?_))
      · dsimp only [jpush]
        refine e_if_eq 33 45 dX11_person_30 (by decide) (by decide) rfl (fun h => absurd h (by decide)) (fun _ => ?_)
        refine e_iload 35 dX11_person_33 rfl rfl ?_
        refine e_iconst 36 dX11_person_35 rfl ?_
        refine e_sipush 39 dX11_person_36 (by decide) rfl ?_
        refine e_callS 42 mt_yX11_within ms_yX11_within wd_531 (by decide) dX11_person_39 rfl rfl (Nat.le_of_ble_eq_true rfl) (jroom (by decide)) rfl (c_within (by omega) (by omega) (by omega) (fun w39 => ?_) (fun w39 => ?_))
        · dsimp only [jpush]
          refine e_if_ne 45 48 dX11_person_42 (by decide) (by decide) rfl (fun _ => ?_) (fun h => absurd h (by decide))
          refine e_aload_n (i := 0) 49 dX11_person_48 rfl rfl rfl ?_
          refine e_getr (j := 0) 52 fl_11_10 dX11_person_49 at_0 rfl rfl tp_0_0 rfl ?_
          refine e_geti (j := 8) 55 fl_11_146 dX11_person_52 at_1 (by decide) rfl rfl (fun r52 => ?_)
          refine e_bipush 57 dX11_person_55 (by decide) rfl ?_
          refine e_icmp_lt 60 63 dX11_person_57 (by omega) (by decide) (by decide) rfl (fun b57 => ?_) (fun b57 => ?_)
          · skip
            refine e_aload_n (i := 0) 64 dX11_person_63 rfl rfl rfl ?_
            refine e_getr (j := 0) 67 fl_11_10 dX11_person_64 at_0 rfl rfl tp_0_0 rfl ?_
            refine e_getr (j := 7) 70 fl_11_149 dX11_person_67 at_1 rfl rfl tp_1_7 rfl ?_
            refine e_aload_n (i := 0) 71 dX11_person_70 rfl rfl rfl ?_
            refine e_getr (j := 0) 74 fl_11_10 dX11_person_71 at_0 rfl rfl tp_0_0 rfl ?_
            refine e_geti (j := 8) 77 fl_11_146 dX11_person_74 at_1 (by decide) rfl rfl (fun r74 => ?_)
            refine e_aald 78 dX11_person_77 ar_17 (by decide) (by omega) (by omega) (tp_person (by omega) (by omega)) rfl ?_
            refine e_astore (lsn := [(5, _), (0, _), (1, _), (2, _), (3, _), (4, _)]) 80 dX11_person_78 (by decide) rfl rfl ?_
            refine e_aload 82 dX11_person_80 rfl rfl ?_
            refine e_iload_n (i := 1) 83 dX11_person_82 rfl rfl rfl ?_
            refine e_puti (j := 0) 86 fl_11_153 dX11_person_83 (at_person (by omega) (by omega)) rfl rfl rfl (by omega) rfl ?_
            refine e_aload 88 dX11_person_86 rfl rfl ?_
            refine e_iload_n (i := 2) 89 dX11_person_88 rfl rfl rfl ?_
            refine e_puti (j := 1) 92 fl_11_158 dX11_person_89 (at_person (by omega) (by omega)) rfl rfl rfl (by omega) rfl ?_
            refine e_aload 94 dX11_person_92 rfl rfl ?_
            refine e_iload_n (i := 3) 95 dX11_person_94 rfl rfl rfl ?_
            refine e_puti (j := 2) 98 fl_11_161 dX11_person_95 (at_person (by omega) (by omega)) rfl rfl rfl (by omega) rfl ?_
            refine e_aload 100 dX11_person_98 rfl rfl ?_
            refine e_iconst 101 dX11_person_100 rfl ?_
            refine e_iload 103 dX11_person_101 rfl rfl ?_
            refine e_imul 104 dX11_person_103 rfl ?_
            refine e_puti (j := 3) 107 fl_11_164 dX11_person_104 (at_person (by omega) (by omega)) rfl rfl rfl (by omega) rfl ?_
            refine e_aload 109 dX11_person_107 rfl rfl ?_
            refine e_iconst 110 dX11_person_109 rfl ?_
            refine e_puti (j := 4) 113 fl_11_167 dX11_person_110 (at_person (by omega) (by omega)) rfl rfl rfl (by decide) rfl ?_
            refine e_aload_n (i := 0) 114 dX11_person_113 rfl rfl rfl ?_
            refine e_getr (j := 0) 117 fl_11_10 dX11_person_114 at_0 rfl rfl tp_0_0 rfl ?_
            refine e_dup 118 dX11_person_117 rfl rfl ?_
            refine e_geti (j := 8) 121 fl_11_146 dX11_person_118 at_1 (by decide) rfl rfl (fun r118 => ?_)
            simp (disch := omega) only [jset_k, jset_j, jset_same, true_and, and_true] at r118 ⊢
            refine e_iconst 122 dX11_person_121 rfl ?_
            refine e_iadd 123 dX11_person_122 rfl ?_
            refine e_puti (j := 8) 126 fl_11_146 dX11_person_123 at_1 rfl rfl rfl (by omega) rfl ?_
            refine e_aload_n (i := 0) 127 dX11_person_126 rfl rfl rfl ?_
            refine e_getr (j := 0) 130 fl_11_10 dX11_person_127 at_0 rfl rfl tp_0_0 rfl ?_
            refine e_geti (j := 8) 133 fl_11_146 dX11_person_130 at_1 (by decide) rfl rfl (fun r130 => ?_)
            simp (disch := omega) only [jset_k, jset_j, jset_same, true_and, and_true] at r130 ⊢
            refine e_iconst 134 dX11_person_133 rfl ?_
            refine e_isub 135 dX11_person_134 rfl ?_
            refine e_iret dX11_person_135 ?_
            refine jCt_of mt_yX12_person (Nat.le_of_ble_eq_true rfl) (fun X2 => ?_)
            refine e_aload_n (i := 0) 1 dX12_person_0 rfl rfl rfl ?_
            refine e_iconst 2 dX12_person_1 rfl ?_
            refine e_put0 (j := 0) 5 fl_12_1 dX12_person_2 at_928 rfl rfl rfl (by decide) (by simp (disch := omega) only [jset_k, jset_j, jset_same, true_and, and_true]; exact hI.1) rfl ?_
            refine e_iload_n (i := 1) 6 dX12_person_5 rfl rfl rfl ?_
            refine e_i2l 7 dX12_person_6 (by omega) rfl ?_
            refine e_lconst0 8 dX12_person_7 rfl ?_
            refine e_ldc2 (z := (999)) 11 (ix := 198) wd_1482 (by decide) dX12_person_8 rfl ?_
            refine e_callS 14 mt_yX12_within ms_yX12_within wd_1390 (by decide) dX12_person_11 rfl rfl (Nat.le_of_ble_eq_true rfl) (jroom (by decide)) rfl (m_within (by omega) (by omega) (by omega) (fun w11 => ?_) (fun w11 => ?_))
            · dsimp only [jpush]
              (try simp (disch := omega) only [jset_k, jset_j, jset_same, true_and, and_true] at w11)
              first
               | (exfalso; omega)
               | (skip
                  refine e_if_eq 17 54 dX12_person_14 (by decide) (by decide) rfl (fun h => absurd h (by decide)) (fun _ => ?_)
                  refine e_iload_n (i := 2) 18 dX12_person_17 rfl rfl rfl ?_
                  refine e_i2l 19 dX12_person_18 (by omega) rfl ?_
                  refine e_lconst0 20 dX12_person_19 rfl ?_
                  refine e_ldc2 (z := (999)) 23 (ix := 198) wd_1482 (by decide) dX12_person_20 rfl ?_
                  refine e_callS 26 mt_yX12_within ms_yX12_within wd_1390 (by decide) dX12_person_23 rfl rfl (Nat.le_of_ble_eq_true rfl) (jroom (by decide)) rfl (m_within (by omega) (by omega) (by omega) (fun w23 => ?_) (fun w23 => ?_))
                  · dsimp only [jpush]
                    (try simp (disch := omega) only [jset_k, jset_j, jset_same, true_and, and_true] at w23)
                    first
                     | (exfalso; omega)
                     | (skip
                        refine e_if_eq 29 54 dX12_person_26 (by decide) (by decide) rfl (fun h => absurd h (by decide)) (fun _ => ?_)
                        refine e_iload_n (i := 3) 30 dX12_person_29 rfl rfl rfl ?_
                        refine e_i2l 31 dX12_person_30 (by omega) rfl ?_
                        refine e_lconst0 32 dX12_person_31 rfl ?_
                        refine e_ldc2 (z := (999)) 35 (ix := 198) wd_1482 (by decide) dX12_person_32 rfl ?_
                        refine e_callS 38 mt_yX12_within ms_yX12_within wd_1390 (by decide) dX12_person_35 rfl rfl (Nat.le_of_ble_eq_true rfl) (jroom (by decide)) rfl (m_within (by omega) (by omega) (by omega) (fun w35 => ?_) (fun w35 => ?_))
                        · dsimp only [jpush]
                          (try simp (disch := omega) only [jset_k, jset_j, jset_same, true_and, and_true] at w35)
                          first
                           | (exfalso; omega)
                           | (skip
                              refine e_if_eq 41 54 dX12_person_38 (by decide) (by decide) rfl (fun h => absurd h (by decide)) (fun _ => ?_)
                              refine e_iload 43 dX12_person_41 rfl rfl ?_
                              refine e_i2l 44 dX12_person_43 (by omega) rfl ?_
                              refine e_lconst0 45 dX12_person_44 rfl ?_
                              refine e_ldc2 (z := (9999)) 48 (ix := 213) wd_1501 (by decide) dX12_person_45 rfl ?_
                              refine e_callS 51 mt_yX12_within ms_yX12_within wd_1390 (by decide) dX12_person_48 rfl rfl (Nat.le_of_ble_eq_true rfl) (jroom (by decide)) rfl (m_within (by omega) (by omega) (by omega) (fun w48 => ?_) (fun w48 => ?_))
                              · dsimp only [jpush]
                                (try simp (disch := omega) only [jset_k, jset_j, jset_same, true_and, and_true] at w48)
                                first
                                 | (exfalso; omega)
                                 | (skip
                                    refine e_if_ne 54 57 dX12_person_51 (by decide) (by decide) rfl (fun _ => ?_) (fun h => absurd h (by decide))
                                    refine e_aload_n (i := 0) 58 dX12_person_57 rfl rfl rfl ?_
                                    refine e_getr (j := 1) 61 fl_12_13 dX12_person_58 at_928 rfl rfl tp_928_1 rfl ?_
                                    refine e_sipush 64 dX12_person_61 (by decide) rfl ?_
                                    refine e_iald 65 dX12_person_64 ar_929 (by decide) (by decide) rfl (fun r64 => ?_)
                                    simp (disch := omega) only [jset_k, jset_j, jset_same, true_and, and_true] at r64 ⊢
                                    refine e_istore (lsn := [(5, _), (0, _), (1, _), (2, _), (3, _), (4, _)]) 67 dX12_person_65 (by decide) rfl rfl ?_
                                    refine e_iload 69 dX12_person_67 rfl rfl ?_
                                    refine e_bipush 71 dX12_person_69 (by decide) rfl ?_
                                    refine e_icmp_ne 74 77 dX12_person_71 (by omega) (by decide) (by decide) rfl (fun b71 => ?_) (fun b71 => ?_)
                                    · first
                                       | (exfalso; omega)
                                       | (skip
                                          refine e_aload_n (i := 0) 78 dX12_person_77 rfl rfl rfl ?_
                                          refine e_getr (j := 1) 81 fl_12_13 dX12_person_78 at_928 rfl rfl tp_928_1 rfl ?_
                                          refine e_sipush 84 dX12_person_81 (by decide) rfl ?_
                                          refine e_iload 86 dX12_person_84 rfl rfl ?_
                                          refine e_iadd 87 dX12_person_86 rfl ?_
                                          refine e_iload_n (i := 1) 88 dX12_person_87 rfl rfl rfl ?_
                                          refine e_iast 89 dX12_person_88 ar_929 (by omega) (by omega) (by omega) rfl ?_
                                          refine e_aload_n (i := 0) 90 dX12_person_89 rfl rfl rfl ?_
                                          refine e_getr (j := 1) 93 fl_12_13 dX12_person_90 at_928 rfl rfl tp_928_1 rfl ?_
                                          refine e_sipush 96 dX12_person_93 (by decide) rfl ?_
                                          refine e_iload 98 dX12_person_96 rfl rfl ?_
                                          refine e_iadd 99 dX12_person_98 rfl ?_
                                          refine e_iload_n (i := 2) 100 dX12_person_99 rfl rfl rfl ?_
                                          refine e_iast 101 dX12_person_100 ar_929 (by omega) (by omega) (by omega) rfl ?_
                                          refine e_aload_n (i := 0) 102 dX12_person_101 rfl rfl rfl ?_
                                          refine e_getr (j := 1) 105 fl_12_13 dX12_person_102 at_928 rfl rfl tp_928_1 rfl ?_
                                          refine e_sipush 108 dX12_person_105 (by decide) rfl ?_
                                          refine e_iload 110 dX12_person_108 rfl rfl ?_
                                          refine e_iadd 111 dX12_person_110 rfl ?_
                                          refine e_iload_n (i := 3) 112 dX12_person_111 rfl rfl rfl ?_
                                          refine e_iast 113 dX12_person_112 ar_929 (by omega) (by omega) (by omega) rfl ?_
                                          refine e_aload_n (i := 0) 114 dX12_person_113 rfl rfl rfl ?_
                                          refine e_getr (j := 1) 117 fl_12_13 dX12_person_114 at_928 rfl rfl tp_928_1 rfl ?_
                                          refine e_sipush 120 dX12_person_117 (by decide) rfl ?_
                                          refine e_iload 122 dX12_person_120 rfl rfl ?_
                                          refine e_iadd 123 dX12_person_122 rfl ?_
                                          refine e_iconst 124 dX12_person_123 rfl ?_
                                          refine e_iload 126 dX12_person_124 rfl rfl ?_
                                          refine e_imul 127 dX12_person_126 rfl ?_
                                          refine e_iast 128 dX12_person_127 ar_929 (by omega) (by omega) (by omega) rfl ?_
                                          refine e_aload_n (i := 0) 129 dX12_person_128 rfl rfl rfl ?_
                                          refine e_getr (j := 1) 132 fl_12_13 dX12_person_129 at_928 rfl rfl tp_928_1 rfl ?_
                                          refine e_sipush 135 dX12_person_132 (by decide) rfl ?_
                                          refine e_iload 137 dX12_person_135 rfl rfl ?_
                                          refine e_iadd 138 dX12_person_137 rfl ?_
                                          refine e_iconst 139 dX12_person_138 rfl ?_
                                          refine e_iast 140 dX12_person_139 ar_929 (by omega) (by omega) (by decide) rfl ?_
                                          refine e_aload_n (i := 0) 141 dX12_person_140 rfl rfl rfl ?_
                                          refine e_getr (j := 1) 144 fl_12_13 dX12_person_141 at_928 rfl rfl tp_928_1 rfl ?_
                                          refine e_sipush 147 dX12_person_144 (by decide) rfl ?_
                                          refine e_dup2 148 dX12_person_147 rfl rfl rfl ?_
                                          refine e_iald 149 dX12_person_148 ar_929 (by decide) (by decide) rfl (fun r148 => ?_)
                                          simp (disch := omega) only [jset_k, jset_j, jset_same, true_and, and_true] at r148 ⊢
                                          refine e_iconst 150 dX12_person_149 rfl ?_
                                          refine e_iadd 151 dX12_person_150 rfl ?_
                                          refine e_iast 152 dX12_person_151 ar_929 (by decide) (by decide) (by omega) rfl ?_
                                          refine e_iload 154 dX12_person_152 rfl rfl ?_
                                          refine e_iret dX12_person_154 ?_
                                          first
                                            | (exact ⟨by omega, hI⟩)
                                            | (exfalso; omega)
                                            | (refine ⟨by omega, ?_⟩
                                               simp only [hn.2.1]
                                               refine hI.live ?_ ?_ ?_
                                               · repeat (first | exact Live.rf | refine Live.c ?_ (by omega) | refine Live.r ?_ (by omega) | refine Live.s ?_ (by omega))
                                               · refine ⟨?_, ?_, ?_, ?_, ?_, ?_, ?_, ?_, ?_, ?_, ?_⟩
                                                 · have h := hI.2.1.1
                                                   unfold RCnt at h ⊢
                                                   simp (disch := omega) only [jset_k, jset_j, jset_same, true_and, and_true]
                                                   omega
                                                 · exact hI.2.1.2.1.fr (fun i a b => by simp (disch := omega) only [jset_k, jset_j, jset_same, true_and, and_true])
                                                 · exact hI.2.1.2.2.1.fr (fun i a b => by simp (disch := omega) only [jset_k, jset_j, jset_same, true_and, and_true])
                                                 · exact hI.2.1.2.2.2.1.fr (by omega) (fun i a b => by simp (disch := omega) only [jset_k, jset_j, jset_same, true_and, and_true])
                                                 · intro k h0 h1
                                                   simp (disch := omega) only [jset_k, jset_j, jset_same, true_and, and_true] at h1
                                                   by_cases e : k < M 929 643
                                                   · have h := hI.2.1.2.2.2.2.1 k h0 e
                                                     simp (disch := omega) only [jset_k, jset_j, jset_same, true_and, and_true]
                                                     exact h
                                                   · have e2 : k = M 929 643 := by omega
                                                     subst e2
                                                     simp (disch := omega) only [jset_k, jset_j, jset_same, true_and, and_true]
                                                     omega
                                                 · exact hI.2.1.2.2.2.2.2.1.fr (by omega) (fun i a b => by simp (disch := omega) only [jset_k, jset_j, jset_same, true_and, and_true]) (fun i a b => by simp (disch := omega) only [jset_k, jset_j, jset_same, true_and, and_true]) (by simp (disch := omega) only [jset_k, jset_j, jset_same, true_and, and_true]; omega)
                                                 · exact hI.2.1.2.2.2.2.2.2.1.fr (by omega) (by simp (disch := omega) only [jset_k, jset_j, jset_same, true_and, and_true]) (fun i a b => by simp (disch := omega) only [jset_k, jset_j, jset_same, true_and, and_true])
                                                 · exact hI.2.1.2.2.2.2.2.2.2.1.fr (by omega) (fun i a b => by simp (disch := omega) only [jset_k, jset_j, jset_same, true_and, and_true]) (fun i a b => by simp (disch := omega) only [jset_k, jset_j, jset_same, true_and, and_true]) (by simp (disch := omega) only [jset_k, jset_j, jset_same, true_and, and_true]; omega)
                                                 · exact hI.2.1.2.2.2.2.2.2.2.2.1.fr (by omega) (fun i a b => by simp (disch := omega) only [jset_k, jset_j, jset_same, true_and, and_true])
                                                 · exact hI.2.1.2.2.2.2.2.2.2.2.2.1.fr (fun i a b => by simp (disch := omega) only [jset_k, jset_j, jset_same, true_and, and_true])
                                                 · exact hI.2.1.2.2.2.2.2.2.2.2.2.2.fr (fun i a b => by simp (disch := omega) only [jset_k, jset_j, jset_same, true_and, and_true])
                                               · refine ⟨?_, ?_, ?_, ?_, ?_, ?_, ?_, ?_, ?_, ?_, ?_, ?_⟩
                                                 · have h := hC.cnt
                                                   unfold CCnt cv
                                                   simp (disch := omega) only [jset_k, jset_j, jset_same, true_and, and_true, Int.reduceAdd]
                                                   first | omega | exact h
                                                 · exact hI.2.2.1.2.1.fr hI.2.1.2.1 (by omega) (fun k j a b => by show _ = M (1 + k) j; unfold cv; simp (disch := omega) only [jset_k, jset_j, jset_same, true_and, and_true]) (fun i a b => by simp (disch := omega) only [jset_k, jset_j, jset_same, true_and, and_true])
                                                 · exact hI.2.2.1.2.2.1.fr hI.2.1.2.2.1 (by omega) (fun k j a b => by show _ = M (1 + k) j; unfold cv; simp (disch := omega) only [jset_k, jset_j, jset_same, true_and, and_true]) (fun i a b => by simp (disch := omega) only [jset_k, jset_j, jset_same, true_and, and_true])
                                                 · exact hI.2.2.1.2.2.2.1.fr (by omega) (fun k j a b => by show _ = M (1 + k) j; unfold cv; simp (disch := omega) only [jset_k, jset_j, jset_same, true_and, and_true]) (fun i a b => by simp (disch := omega) only [jset_k, jset_j, jset_same, true_and, and_true])
                                                 · intro k h0 h1
                                                   simp (disch := omega) only [jset_k, jset_j, jset_same, true_and, and_true] at h1
                                                   simp only [cv1, Int.reduceAdd]
                                                   by_cases e : k < M 929 643
                                                   · have h := (hC.pers h0 e).1
                                                     simp (disch := omega) only [jset_k, jset_j, jset_same, true_and, and_true]
                                                     exact h
                                                   · have e2 : k = M 929 643 := by omega
                                                     subst e2
                                                     simp (disch := omega) only [jset_k, jset_j, jset_same, true_and, and_true]
                                                     all_goals (first | omega | simp)
                                                 · exact hI.2.2.1.2.2.2.2.2.1.fr (by omega) (fun k j a b => by show _ = M (1 + k) j; unfold cv; simp (disch := omega) only [jset_k, jset_j, jset_same, true_and, and_true]) (fun i a b => by simp (disch := omega) only [jset_k, jset_j, jset_same, true_and, and_true]) (fun i a b => by simp (disch := omega) only [jset_k, jset_j, jset_same, true_and, and_true])
                                                 · exact hI.2.2.1.2.2.2.2.2.2.1.fr (by omega) (fun k j a b => by show _ = M (1 + k) j; unfold cv; simp (disch := omega) only [jset_k, jset_j, jset_same, true_and, and_true]) (fun i a b => by simp (disch := omega) only [jset_k, jset_j, jset_same, true_and, and_true]) (fun i a b => by simp (disch := omega) only [jset_k, jset_j, jset_same, true_and, and_true])
                                                 · exact hI.2.2.1.2.2.2.2.2.2.2.1.fr (by omega) (fun k j a b => by show _ = M (1 + k) j; unfold cv; simp (disch := omega) only [jset_k, jset_j, jset_same, true_and, and_true]) (fun i a b => by simp (disch := omega) only [jset_k, jset_j, jset_same, true_and, and_true])
                                                 · exact hI.2.2.1.2.2.2.2.2.2.2.2.1.fr (fun k j a b => by show _ = M (1 + k) j; unfold cv; simp (disch := omega) only [jset_k, jset_j, jset_same, true_and, and_true]) (fun i a b => by simp (disch := omega) only [jset_k, jset_j, jset_same, true_and, and_true])
                                                 · exact hI.2.2.1.2.2.2.2.2.2.2.2.2.1.fr (fun k j a b => by show _ = M (1 + k) j; unfold cv; simp (disch := omega) only [jset_k, jset_j, jset_same, true_and, and_true]) (fun i a b => by simp (disch := omega) only [jset_k, jset_j, jset_same, true_and, and_true])
                                                 · exact hI.2.2.1.2.2.2.2.2.2.2.2.2.2.1.fr (by omega) (fun k j a b => by show _ = M (1 + k) j; unfold cv; simp (disch := omega) only [jset_k, jset_j, jset_same, true_and, and_true]) (fun i a b => by simp (disch := omega) only [jset_k, jset_j, jset_same, true_and, and_true])
                                                 · exact hI.2.2.1.2.2.2.2.2.2.2.2.2.2.2.fr hI.2.1.2.2.2.2.2.2.2.2.2.2 (fun k j a b => by show _ = M (1 + k) j; unfold cv; simp (disch := omega) only [jset_k, jset_j, jset_same, true_and, and_true]) (fun i a b => by simp (disch := omega) only [jset_k, jset_j, jset_same, true_and, and_true])))
                                    · first
                                       | (exfalso; omega)
                                       | (skip
                                          refine e_bipush 76 dX12_person_74 (by decide) rfl ?_
                                          refine e_iret dX12_person_76 ?_
                                          first
                                            | (exact ⟨by omega, hI⟩)
                                            | (exfalso; omega)
                                            | (refine ⟨by omega, ?_⟩
                                               simp only [hn.2.1]
                                               refine hI.live ?_ ?_ ?_
                                               · repeat (first | exact Live.rf | refine Live.c ?_ (by omega) | refine Live.r ?_ (by omega) | refine Live.s ?_ (by omega))
                                               · refine ⟨?_, ?_, ?_, ?_, ?_, ?_, ?_, ?_, ?_, ?_, ?_⟩
                                                 · have h := hI.2.1.1
                                                   unfold RCnt at h ⊢
                                                   simp (disch := omega) only [jset_k, jset_j, jset_same, true_and, and_true]
                                                   omega
                                                 · exact hI.2.1.2.1.fr (fun i a b => by simp (disch := omega) only [jset_k, jset_j, jset_same, true_and, and_true])
                                                 · exact hI.2.1.2.2.1.fr (fun i a b => by simp (disch := omega) only [jset_k, jset_j, jset_same, true_and, and_true])
                                                 · exact hI.2.1.2.2.2.1.fr (by omega) (fun i a b => by simp (disch := omega) only [jset_k, jset_j, jset_same, true_and, and_true])
                                                 · intro k h0 h1
                                                   simp (disch := omega) only [jset_k, jset_j, jset_same, true_and, and_true] at h1
                                                   by_cases e : k < M 929 643
                                                   · have h := hI.2.1.2.2.2.2.1 k h0 e
                                                     simp (disch := omega) only [jset_k, jset_j, jset_same, true_and, and_true]
                                                     exact h
                                                   · have e2 : k = M 929 643 := by omega
                                                     subst e2
                                                     simp (disch := omega) only [jset_k, jset_j, jset_same, true_and, and_true]
                                                     omega
                                                 · exact hI.2.1.2.2.2.2.2.1.fr (by omega) (fun i a b => by simp (disch := omega) only [jset_k, jset_j, jset_same, true_and, and_true]) (fun i a b => by simp (disch := omega) only [jset_k, jset_j, jset_same, true_and, and_true]) (by simp (disch := omega) only [jset_k, jset_j, jset_same, true_and, and_true]; omega)
                                                 · exact hI.2.1.2.2.2.2.2.2.1.fr (by omega) (by simp (disch := omega) only [jset_k, jset_j, jset_same, true_and, and_true]) (fun i a b => by simp (disch := omega) only [jset_k, jset_j, jset_same, true_and, and_true])
                                                 · exact hI.2.1.2.2.2.2.2.2.2.1.fr (by omega) (fun i a b => by simp (disch := omega) only [jset_k, jset_j, jset_same, true_and, and_true]) (fun i a b => by simp (disch := omega) only [jset_k, jset_j, jset_same, true_and, and_true]) (by simp (disch := omega) only [jset_k, jset_j, jset_same, true_and, and_true]; omega)
                                                 · exact hI.2.1.2.2.2.2.2.2.2.2.1.fr (by omega) (fun i a b => by simp (disch := omega) only [jset_k, jset_j, jset_same, true_and, and_true])
                                                 · exact hI.2.1.2.2.2.2.2.2.2.2.2.1.fr (fun i a b => by simp (disch := omega) only [jset_k, jset_j, jset_same, true_and, and_true])
                                                 · exact hI.2.1.2.2.2.2.2.2.2.2.2.2.fr (fun i a b => by simp (disch := omega) only [jset_k, jset_j, jset_same, true_and, and_true])
                                               · refine ⟨?_, ?_, ?_, ?_, ?_, ?_, ?_, ?_, ?_, ?_, ?_, ?_⟩
                                                 · have h := hC.cnt
                                                   unfold CCnt cv
                                                   simp (disch := omega) only [jset_k, jset_j, jset_same, true_and, and_true, Int.reduceAdd]
                                                   first | omega | exact h
                                                 · exact hI.2.2.1.2.1.fr hI.2.1.2.1 (by omega) (fun k j a b => by show _ = M (1 + k) j; unfold cv; simp (disch := omega) only [jset_k, jset_j, jset_same, true_and, and_true]) (fun i a b => by simp (disch := omega) only [jset_k, jset_j, jset_same, true_and, and_true])
                                                 · exact hI.2.2.1.2.2.1.fr hI.2.1.2.2.1 (by omega) (fun k j a b => by show _ = M (1 + k) j; unfold cv; simp (disch := omega) only [jset_k, jset_j, jset_same, true_and, and_true]) (fun i a b => by simp (disch := omega) only [jset_k, jset_j, jset_same, true_and, and_true])
                                                 · exact hI.2.2.1.2.2.2.1.fr (by omega) (fun k j a b => by show _ = M (1 + k) j; unfold cv; simp (disch := omega) only [jset_k, jset_j, jset_same, true_and, and_true]) (fun i a b => by simp (disch := omega) only [jset_k, jset_j, jset_same, true_and, and_true])
                                                 · intro k h0 h1
                                                   simp (disch := omega) only [jset_k, jset_j, jset_same, true_and, and_true] at h1
                                                   simp only [cv1, Int.reduceAdd]
                                                   by_cases e : k < M 929 643
                                                   · have h := (hC.pers h0 e).1
                                                     simp (disch := omega) only [jset_k, jset_j, jset_same, true_and, and_true]
                                                     exact h
                                                   · have e2 : k = M 929 643 := by omega
                                                     subst e2
                                                     simp (disch := omega) only [jset_k, jset_j, jset_same, true_and, and_true]
                                                     all_goals (first | omega | simp)
                                                 · exact hI.2.2.1.2.2.2.2.2.1.fr (by omega) (fun k j a b => by show _ = M (1 + k) j; unfold cv; simp (disch := omega) only [jset_k, jset_j, jset_same, true_and, and_true]) (fun i a b => by simp (disch := omega) only [jset_k, jset_j, jset_same, true_and, and_true]) (fun i a b => by simp (disch := omega) only [jset_k, jset_j, jset_same, true_and, and_true])
                                                 · exact hI.2.2.1.2.2.2.2.2.2.1.fr (by omega) (fun k j a b => by show _ = M (1 + k) j; unfold cv; simp (disch := omega) only [jset_k, jset_j, jset_same, true_and, and_true]) (fun i a b => by simp (disch := omega) only [jset_k, jset_j, jset_same, true_and, and_true]) (fun i a b => by simp (disch := omega) only [jset_k, jset_j, jset_same, true_and, and_true])
                                                 · exact hI.2.2.1.2.2.2.2.2.2.2.1.fr (by omega) (fun k j a b => by show _ = M (1 + k) j; unfold cv; simp (disch := omega) only [jset_k, jset_j, jset_same, true_and, and_true]) (fun i a b => by simp (disch := omega) only [jset_k, jset_j, jset_same, true_and, and_true])
                                                 · exact hI.2.2.1.2.2.2.2.2.2.2.2.1.fr (fun k j a b => by show _ = M (1 + k) j; unfold cv; simp (disch := omega) only [jset_k, jset_j, jset_same, true_and, and_true]) (fun i a b => by simp (disch := omega) only [jset_k, jset_j, jset_same, true_and, and_true])
                                                 · exact hI.2.2.1.2.2.2.2.2.2.2.2.2.1.fr (fun k j a b => by show _ = M (1 + k) j; unfold cv; simp (disch := omega) only [jset_k, jset_j, jset_same, true_and, and_true]) (fun i a b => by simp (disch := omega) only [jset_k, jset_j, jset_same, true_and, and_true])
                                                 · exact hI.2.2.1.2.2.2.2.2.2.2.2.2.2.1.fr (by omega) (fun k j a b => by show _ = M (1 + k) j; unfold cv; simp (disch := omega) only [jset_k, jset_j, jset_same, true_and, and_true]) (fun i a b => by simp (disch := omega) only [jset_k, jset_j, jset_same, true_and, and_true])
                                                 · exact hI.2.2.1.2.2.2.2.2.2.2.2.2.2.2.fr hI.2.1.2.2.2.2.2.2.2.2.2.2 (fun k j a b => by show _ = M (1 + k) j; unfold cv; simp (disch := omega) only [jset_k, jset_j, jset_same, true_and, and_true]) (fun i a b => by simp (disch := omega) only [jset_k, jset_j, jset_same, true_and, and_true]))))
                              · dsimp only [jpush]
                                (try simp (disch := omega) only [jset_k, jset_j, jset_same, true_and, and_true] at w48)
                                first
                                 | (exfalso; omega)
                                 | (skip
                                    refine e_if_ne 54 57 dX12_person_51 (by decide) (by decide) rfl (fun h => absurd h (by decide)) (fun _ => ?_)
                                    refine e_bipush 56 dX12_person_54 (by decide) rfl ?_
                                    refine e_iret dX12_person_56 ?_
                                    first
                                      | (exact ⟨by omega, hI⟩)
                                      | (exfalso; omega)
                                      | (refine ⟨by omega, ?_⟩
                                         simp only [hn.2.1]
                                         refine hI.live ?_ ?_ ?_
                                         · repeat (first | exact Live.rf | refine Live.c ?_ (by omega) | refine Live.r ?_ (by omega) | refine Live.s ?_ (by omega))
                                         · refine ⟨?_, ?_, ?_, ?_, ?_, ?_, ?_, ?_, ?_, ?_, ?_⟩
                                           · have h := hI.2.1.1
                                             unfold RCnt at h ⊢
                                             simp (disch := omega) only [jset_k, jset_j, jset_same, true_and, and_true]
                                             omega
                                           · exact hI.2.1.2.1.fr (fun i a b => by simp (disch := omega) only [jset_k, jset_j, jset_same, true_and, and_true])
                                           · exact hI.2.1.2.2.1.fr (fun i a b => by simp (disch := omega) only [jset_k, jset_j, jset_same, true_and, and_true])
                                           · exact hI.2.1.2.2.2.1.fr (by omega) (fun i a b => by simp (disch := omega) only [jset_k, jset_j, jset_same, true_and, and_true])
                                           · intro k h0 h1
                                             simp (disch := omega) only [jset_k, jset_j, jset_same, true_and, and_true] at h1
                                             by_cases e : k < M 929 643
                                             · have h := hI.2.1.2.2.2.2.1 k h0 e
                                               simp (disch := omega) only [jset_k, jset_j, jset_same, true_and, and_true]
                                               exact h
                                             · have e2 : k = M 929 643 := by omega
                                               subst e2
                                               simp (disch := omega) only [jset_k, jset_j, jset_same, true_and, and_true]
                                               omega
                                           · exact hI.2.1.2.2.2.2.2.1.fr (by omega) (fun i a b => by simp (disch := omega) only [jset_k, jset_j, jset_same, true_and, and_true]) (fun i a b => by simp (disch := omega) only [jset_k, jset_j, jset_same, true_and, and_true]) (by simp (disch := omega) only [jset_k, jset_j, jset_same, true_and, and_true]; omega)
                                           · exact hI.2.1.2.2.2.2.2.2.1.fr (by omega) (by simp (disch := omega) only [jset_k, jset_j, jset_same, true_and, and_true]) (fun i a b => by simp (disch := omega) only [jset_k, jset_j, jset_same, true_and, and_true])
                                           · exact hI.2.1.2.2.2.2.2.2.2.1.fr (by omega) (fun i a b => by simp (disch := omega) only [jset_k, jset_j, jset_same, true_and, and_true]) (fun i a b => by simp (disch := omega) only [jset_k, jset_j, jset_same, true_and, and_true]) (by simp (disch := omega) only [jset_k, jset_j, jset_same, true_and, and_true]; omega)
                                           · exact hI.2.1.2.2.2.2.2.2.2.2.1.fr (by omega) (fun i a b => by simp (disch := omega) only [jset_k, jset_j, jset_same, true_and, and_true])
                                           · exact hI.2.1.2.2.2.2.2.2.2.2.2.1.fr (fun i a b => by simp (disch := omega) only [jset_k, jset_j, jset_same, true_and, and_true])
                                           · exact hI.2.1.2.2.2.2.2.2.2.2.2.2.fr (fun i a b => by simp (disch := omega) only [jset_k, jset_j, jset_same, true_and, and_true])
                                         · refine ⟨?_, ?_, ?_, ?_, ?_, ?_, ?_, ?_, ?_, ?_, ?_, ?_⟩
                                           · have h := hC.cnt
                                             unfold CCnt cv
                                             simp (disch := omega) only [jset_k, jset_j, jset_same, true_and, and_true, Int.reduceAdd]
                                             first | omega | exact h
                                           · exact hI.2.2.1.2.1.fr hI.2.1.2.1 (by omega) (fun k j a b => by show _ = M (1 + k) j; unfold cv; simp (disch := omega) only [jset_k, jset_j, jset_same, true_and, and_true]) (fun i a b => by simp (disch := omega) only [jset_k, jset_j, jset_same, true_and, and_true])
                                           · exact hI.2.2.1.2.2.1.fr hI.2.1.2.2.1 (by omega) (fun k j a b => by show _ = M (1 + k) j; unfold cv; simp (disch := omega) only [jset_k, jset_j, jset_same, true_and, and_true]) (fun i a b => by simp (disch := omega) only [jset_k, jset_j, jset_same, true_and, and_true])
                                           · exact hI.2.2.1.2.2.2.1.fr (by omega) (fun k j a b => by show _ = M (1 + k) j; unfold cv; simp (disch := omega) only [jset_k, jset_j, jset_same, true_and, and_true]) (fun i a b => by simp (disch := omega) only [jset_k, jset_j, jset_same, true_and, and_true])
                                           · intro k h0 h1
                                             simp (disch := omega) only [jset_k, jset_j, jset_same, true_and, and_true] at h1
                                             simp only [cv1, Int.reduceAdd]
                                             by_cases e : k < M 929 643
                                             · have h := (hC.pers h0 e).1
                                               simp (disch := omega) only [jset_k, jset_j, jset_same, true_and, and_true]
                                               exact h
                                             · have e2 : k = M 929 643 := by omega
                                               subst e2
                                               simp (disch := omega) only [jset_k, jset_j, jset_same, true_and, and_true]
                                               all_goals (first | omega | simp)
                                           · exact hI.2.2.1.2.2.2.2.2.1.fr (by omega) (fun k j a b => by show _ = M (1 + k) j; unfold cv; simp (disch := omega) only [jset_k, jset_j, jset_same, true_and, and_true]) (fun i a b => by simp (disch := omega) only [jset_k, jset_j, jset_same, true_and, and_true]) (fun i a b => by simp (disch := omega) only [jset_k, jset_j, jset_same, true_and, and_true])
                                           · exact hI.2.2.1.2.2.2.2.2.2.1.fr (by omega) (fun k j a b => by show _ = M (1 + k) j; unfold cv; simp (disch := omega) only [jset_k, jset_j, jset_same, true_and, and_true]) (fun i a b => by simp (disch := omega) only [jset_k, jset_j, jset_same, true_and, and_true]) (fun i a b => by simp (disch := omega) only [jset_k, jset_j, jset_same, true_and, and_true])
                                           · exact hI.2.2.1.2.2.2.2.2.2.2.1.fr (by omega) (fun k j a b => by show _ = M (1 + k) j; unfold cv; simp (disch := omega) only [jset_k, jset_j, jset_same, true_and, and_true]) (fun i a b => by simp (disch := omega) only [jset_k, jset_j, jset_same, true_and, and_true])
                                           · exact hI.2.2.1.2.2.2.2.2.2.2.2.1.fr (fun k j a b => by show _ = M (1 + k) j; unfold cv; simp (disch := omega) only [jset_k, jset_j, jset_same, true_and, and_true]) (fun i a b => by simp (disch := omega) only [jset_k, jset_j, jset_same, true_and, and_true])
                                           · exact hI.2.2.1.2.2.2.2.2.2.2.2.2.1.fr (fun k j a b => by show _ = M (1 + k) j; unfold cv; simp (disch := omega) only [jset_k, jset_j, jset_same, true_and, and_true]) (fun i a b => by simp (disch := omega) only [jset_k, jset_j, jset_same, true_and, and_true])
                                           · exact hI.2.2.1.2.2.2.2.2.2.2.2.2.2.1.fr (by omega) (fun k j a b => by show _ = M (1 + k) j; unfold cv; simp (disch := omega) only [jset_k, jset_j, jset_same, true_and, and_true]) (fun i a b => by simp (disch := omega) only [jset_k, jset_j, jset_same, true_and, and_true])
                                           · exact hI.2.2.1.2.2.2.2.2.2.2.2.2.2.2.fr hI.2.1.2.2.2.2.2.2.2.2.2.2 (fun k j a b => by show _ = M (1 + k) j; unfold cv; simp (disch := omega) only [jset_k, jset_j, jset_same, true_and, and_true]) (fun i a b => by simp (disch := omega) only [jset_k, jset_j, jset_same, true_and, and_true]))))
                        · dsimp only [jpush]
                          (try simp (disch := omega) only [jset_k, jset_j, jset_same, true_and, and_true] at w35)
                          first
                           | (exfalso; omega)
                           | (skip
                              refine e_if_eq 41 54 dX12_person_38 (by decide) (by decide) rfl (fun _ => ?_) (fun h => absurd h (by decide))
                              refine e_bipush 56 dX12_person_54 (by decide) rfl ?_
                              refine e_iret dX12_person_56 ?_
                              first
                                | (exact ⟨by omega, hI⟩)
                                | (exfalso; omega)
                                | (refine ⟨by omega, ?_⟩
                                   simp only [hn.2.1]
                                   refine hI.live ?_ ?_ ?_
                                   · repeat (first | exact Live.rf | refine Live.c ?_ (by omega) | refine Live.r ?_ (by omega) | refine Live.s ?_ (by omega))
                                   · refine ⟨?_, ?_, ?_, ?_, ?_, ?_, ?_, ?_, ?_, ?_, ?_⟩
                                     · have h := hI.2.1.1
                                       unfold RCnt at h ⊢
                                       simp (disch := omega) only [jset_k, jset_j, jset_same, true_and, and_true]
                                       omega
                                     · exact hI.2.1.2.1.fr (fun i a b => by simp (disch := omega) only [jset_k, jset_j, jset_same, true_and, and_true])
                                     · exact hI.2.1.2.2.1.fr (fun i a b => by simp (disch := omega) only [jset_k, jset_j, jset_same, true_and, and_true])
                                     · exact hI.2.1.2.2.2.1.fr (by omega) (fun i a b => by simp (disch := omega) only [jset_k, jset_j, jset_same, true_and, and_true])
                                     · intro k h0 h1
                                       simp (disch := omega) only [jset_k, jset_j, jset_same, true_and, and_true] at h1
                                       by_cases e : k < M 929 643
                                       · have h := hI.2.1.2.2.2.2.1 k h0 e
                                         simp (disch := omega) only [jset_k, jset_j, jset_same, true_and, and_true]
                                         exact h
                                       · have e2 : k = M 929 643 := by omega
                                         subst e2
                                         simp (disch := omega) only [jset_k, jset_j, jset_same, true_and, and_true]
                                         omega
                                     · exact hI.2.1.2.2.2.2.2.1.fr (by omega) (fun i a b => by simp (disch := omega) only [jset_k, jset_j, jset_same, true_and, and_true]) (fun i a b => by simp (disch := omega) only [jset_k, jset_j, jset_same, true_and, and_true]) (by simp (disch := omega) only [jset_k, jset_j, jset_same, true_and, and_true]; omega)
                                     · exact hI.2.1.2.2.2.2.2.2.1.fr (by omega) (by simp (disch := omega) only [jset_k, jset_j, jset_same, true_and, and_true]) (fun i a b => by simp (disch := omega) only [jset_k, jset_j, jset_same, true_and, and_true])
                                     · exact hI.2.1.2.2.2.2.2.2.2.1.fr (by omega) (fun i a b => by simp (disch := omega) only [jset_k, jset_j, jset_same, true_and, and_true]) (fun i a b => by simp (disch := omega) only [jset_k, jset_j, jset_same, true_and, and_true]) (by simp (disch := omega) only [jset_k, jset_j, jset_same, true_and, and_true]; omega)
                                     · exact hI.2.1.2.2.2.2.2.2.2.2.1.fr (by omega) (fun i a b => by simp (disch := omega) only [jset_k, jset_j, jset_same, true_and, and_true])
                                     · exact hI.2.1.2.2.2.2.2.2.2.2.2.1.fr (fun i a b => by simp (disch := omega) only [jset_k, jset_j, jset_same, true_and, and_true])
                                     · exact hI.2.1.2.2.2.2.2.2.2.2.2.2.fr (fun i a b => by simp (disch := omega) only [jset_k, jset_j, jset_same, true_and, and_true])
                                   · refine ⟨?_, ?_, ?_, ?_, ?_, ?_, ?_, ?_, ?_, ?_, ?_, ?_⟩
                                     · have h := hC.cnt
                                       unfold CCnt cv
                                       simp (disch := omega) only [jset_k, jset_j, jset_same, true_and, and_true, Int.reduceAdd]
                                       first | omega | exact h
                                     · exact hI.2.2.1.2.1.fr hI.2.1.2.1 (by omega) (fun k j a b => by show _ = M (1 + k) j; unfold cv; simp (disch := omega) only [jset_k, jset_j, jset_same, true_and, and_true]) (fun i a b => by simp (disch := omega) only [jset_k, jset_j, jset_same, true_and, and_true])
                                     · exact hI.2.2.1.2.2.1.fr hI.2.1.2.2.1 (by omega) (fun k j a b => by show _ = M (1 + k) j; unfold cv; simp (disch := omega) only [jset_k, jset_j, jset_same, true_and, and_true]) (fun i a b => by simp (disch := omega) only [jset_k, jset_j, jset_same, true_and, and_true])
                                     · exact hI.2.2.1.2.2.2.1.fr (by omega) (fun k j a b => by show _ = M (1 + k) j; unfold cv; simp (disch := omega) only [jset_k, jset_j, jset_same, true_and, and_true]) (fun i a b => by simp (disch := omega) only [jset_k, jset_j, jset_same, true_and, and_true])
                                     · intro k h0 h1
                                       simp (disch := omega) only [jset_k, jset_j, jset_same, true_and, and_true] at h1
                                       simp only [cv1, Int.reduceAdd]
                                       by_cases e : k < M 929 643
                                       · have h := (hC.pers h0 e).1
                                         simp (disch := omega) only [jset_k, jset_j, jset_same, true_and, and_true]
                                         exact h
                                       · have e2 : k = M 929 643 := by omega
                                         subst e2
                                         simp (disch := omega) only [jset_k, jset_j, jset_same, true_and, and_true]
                                         all_goals (first | omega | simp)
                                     · exact hI.2.2.1.2.2.2.2.2.1.fr (by omega) (fun k j a b => by show _ = M (1 + k) j; unfold cv; simp (disch := omega) only [jset_k, jset_j, jset_same, true_and, and_true]) (fun i a b => by simp (disch := omega) only [jset_k, jset_j, jset_same, true_and, and_true]) (fun i a b => by simp (disch := omega) only [jset_k, jset_j, jset_same, true_and, and_true])
                                     · exact hI.2.2.1.2.2.2.2.2.2.1.fr (by omega) (fun k j a b => by show _ = M (1 + k) j; unfold cv; simp (disch := omega) only [jset_k, jset_j, jset_same, true_and, and_true]) (fun i a b => by simp (disch := omega) only [jset_k, jset_j, jset_same, true_and, and_true]) (fun i a b => by simp (disch := omega) only [jset_k, jset_j, jset_same, true_and, and_true])
                                     · exact hI.2.2.1.2.2.2.2.2.2.2.1.fr (by omega) (fun k j a b => by show _ = M (1 + k) j; unfold cv; simp (disch := omega) only [jset_k, jset_j, jset_same, true_and, and_true]) (fun i a b => by simp (disch := omega) only [jset_k, jset_j, jset_same, true_and, and_true])
                                     · exact hI.2.2.1.2.2.2.2.2.2.2.2.1.fr (fun k j a b => by show _ = M (1 + k) j; unfold cv; simp (disch := omega) only [jset_k, jset_j, jset_same, true_and, and_true]) (fun i a b => by simp (disch := omega) only [jset_k, jset_j, jset_same, true_and, and_true])
                                     · exact hI.2.2.1.2.2.2.2.2.2.2.2.2.1.fr (fun k j a b => by show _ = M (1 + k) j; unfold cv; simp (disch := omega) only [jset_k, jset_j, jset_same, true_and, and_true]) (fun i a b => by simp (disch := omega) only [jset_k, jset_j, jset_same, true_and, and_true])
                                     · exact hI.2.2.1.2.2.2.2.2.2.2.2.2.2.1.fr (by omega) (fun k j a b => by show _ = M (1 + k) j; unfold cv; simp (disch := omega) only [jset_k, jset_j, jset_same, true_and, and_true]) (fun i a b => by simp (disch := omega) only [jset_k, jset_j, jset_same, true_and, and_true])
                                     · exact hI.2.2.1.2.2.2.2.2.2.2.2.2.2.2.fr hI.2.1.2.2.2.2.2.2.2.2.2.2 (fun k j a b => by show _ = M (1 + k) j; unfold cv; simp (disch := omega) only [jset_k, jset_j, jset_same, true_and, and_true]) (fun i a b => by simp (disch := omega) only [jset_k, jset_j, jset_same, true_and, and_true]))))
                  · dsimp only [jpush]
                    (try simp (disch := omega) only [jset_k, jset_j, jset_same, true_and, and_true] at w23)
                    first
                     | (exfalso; omega)
                     | (skip
                        refine e_if_eq 29 54 dX12_person_26 (by decide) (by decide) rfl (fun _ => ?_) (fun h => absurd h (by decide))
                        refine e_bipush 56 dX12_person_54 (by decide) rfl ?_
                        refine e_iret dX12_person_56 ?_
                        first
                          | (exact ⟨by omega, hI⟩)
                          | (exfalso; omega)
                          | (refine ⟨by omega, ?_⟩
                             simp only [hn.2.1]
                             refine hI.live ?_ ?_ ?_
                             · repeat (first | exact Live.rf | refine Live.c ?_ (by omega) | refine Live.r ?_ (by omega) | refine Live.s ?_ (by omega))
                             · refine ⟨?_, ?_, ?_, ?_, ?_, ?_, ?_, ?_, ?_, ?_, ?_⟩
                               · have h := hI.2.1.1
                                 unfold RCnt at h ⊢
                                 simp (disch := omega) only [jset_k, jset_j, jset_same, true_and, and_true]
                                 omega
                               · exact hI.2.1.2.1.fr (fun i a b => by simp (disch := omega) only [jset_k, jset_j, jset_same, true_and, and_true])
                               · exact hI.2.1.2.2.1.fr (fun i a b => by simp (disch := omega) only [jset_k, jset_j, jset_same, true_and, and_true])
                               · exact hI.2.1.2.2.2.1.fr (by omega) (fun i a b => by simp (disch := omega) only [jset_k, jset_j, jset_same, true_and, and_true])
                               · intro k h0 h1
                                 simp (disch := omega) only [jset_k, jset_j, jset_same, true_and, and_true] at h1
                                 by_cases e : k < M 929 643
                                 · have h := hI.2.1.2.2.2.2.1 k h0 e
                                   simp (disch := omega) only [jset_k, jset_j, jset_same, true_and, and_true]
                                   exact h
                                 · have e2 : k = M 929 643 := by omega
                                   subst e2
                                   simp (disch := omega) only [jset_k, jset_j, jset_same, true_and, and_true]
                                   omega
                               · exact hI.2.1.2.2.2.2.2.1.fr (by omega) (fun i a b => by simp (disch := omega) only [jset_k, jset_j, jset_same, true_and, and_true]) (fun i a b => by simp (disch := omega) only [jset_k, jset_j, jset_same, true_and, and_true]) (by simp (disch := omega) only [jset_k, jset_j, jset_same, true_and, and_true]; omega)
                               · exact hI.2.1.2.2.2.2.2.2.1.fr (by omega) (by simp (disch := omega) only [jset_k, jset_j, jset_same, true_and, and_true]) (fun i a b => by simp (disch := omega) only [jset_k, jset_j, jset_same, true_and, and_true])
                               · exact hI.2.1.2.2.2.2.2.2.2.1.fr (by omega) (fun i a b => by simp (disch := omega) only [jset_k, jset_j, jset_same, true_and, and_true]) (fun i a b => by simp (disch := omega) only [jset_k, jset_j, jset_same, true_and, and_true]) (by simp (disch := omega) only [jset_k, jset_j, jset_same, true_and, and_true]; omega)
                               · exact hI.2.1.2.2.2.2.2.2.2.2.1.fr (by omega) (fun i a b => by simp (disch := omega) only [jset_k, jset_j, jset_same, true_and, and_true])
                               · exact hI.2.1.2.2.2.2.2.2.2.2.2.1.fr (fun i a b => by simp (disch := omega) only [jset_k, jset_j, jset_same, true_and, and_true])
                               · exact hI.2.1.2.2.2.2.2.2.2.2.2.2.fr (fun i a b => by simp (disch := omega) only [jset_k, jset_j, jset_same, true_and, and_true])
                             · refine ⟨?_, ?_, ?_, ?_, ?_, ?_, ?_, ?_, ?_, ?_, ?_, ?_⟩
                               · have h := hC.cnt
                                 unfold CCnt cv
                                 simp (disch := omega) only [jset_k, jset_j, jset_same, true_and, and_true, Int.reduceAdd]
                                 first | omega | exact h
                               · exact hI.2.2.1.2.1.fr hI.2.1.2.1 (by omega) (fun k j a b => by show _ = M (1 + k) j; unfold cv; simp (disch := omega) only [jset_k, jset_j, jset_same, true_and, and_true]) (fun i a b => by simp (disch := omega) only [jset_k, jset_j, jset_same, true_and, and_true])
                               · exact hI.2.2.1.2.2.1.fr hI.2.1.2.2.1 (by omega) (fun k j a b => by show _ = M (1 + k) j; unfold cv; simp (disch := omega) only [jset_k, jset_j, jset_same, true_and, and_true]) (fun i a b => by simp (disch := omega) only [jset_k, jset_j, jset_same, true_and, and_true])
                               · exact hI.2.2.1.2.2.2.1.fr (by omega) (fun k j a b => by show _ = M (1 + k) j; unfold cv; simp (disch := omega) only [jset_k, jset_j, jset_same, true_and, and_true]) (fun i a b => by simp (disch := omega) only [jset_k, jset_j, jset_same, true_and, and_true])
                               · intro k h0 h1
                                 simp (disch := omega) only [jset_k, jset_j, jset_same, true_and, and_true] at h1
                                 simp only [cv1, Int.reduceAdd]
                                 by_cases e : k < M 929 643
                                 · have h := (hC.pers h0 e).1
                                   simp (disch := omega) only [jset_k, jset_j, jset_same, true_and, and_true]
                                   exact h
                                 · have e2 : k = M 929 643 := by omega
                                   subst e2
                                   simp (disch := omega) only [jset_k, jset_j, jset_same, true_and, and_true]
                                   all_goals (first | omega | simp)
                               · exact hI.2.2.1.2.2.2.2.2.1.fr (by omega) (fun k j a b => by show _ = M (1 + k) j; unfold cv; simp (disch := omega) only [jset_k, jset_j, jset_same, true_and, and_true]) (fun i a b => by simp (disch := omega) only [jset_k, jset_j, jset_same, true_and, and_true]) (fun i a b => by simp (disch := omega) only [jset_k, jset_j, jset_same, true_and, and_true])
                               · exact hI.2.2.1.2.2.2.2.2.2.1.fr (by omega) (fun k j a b => by show _ = M (1 + k) j; unfold cv; simp (disch := omega) only [jset_k, jset_j, jset_same, true_and, and_true]) (fun i a b => by simp (disch := omega) only [jset_k, jset_j, jset_same, true_and, and_true]) (fun i a b => by simp (disch := omega) only [jset_k, jset_j, jset_same, true_and, and_true])
                               · exact hI.2.2.1.2.2.2.2.2.2.2.1.fr (by omega) (fun k j a b => by show _ = M (1 + k) j; unfold cv; simp (disch := omega) only [jset_k, jset_j, jset_same, true_and, and_true]) (fun i a b => by simp (disch := omega) only [jset_k, jset_j, jset_same, true_and, and_true])
                               · exact hI.2.2.1.2.2.2.2.2.2.2.2.1.fr (fun k j a b => by show _ = M (1 + k) j; unfold cv; simp (disch := omega) only [jset_k, jset_j, jset_same, true_and, and_true]) (fun i a b => by simp (disch := omega) only [jset_k, jset_j, jset_same, true_and, and_true])
                               · exact hI.2.2.1.2.2.2.2.2.2.2.2.2.1.fr (fun k j a b => by show _ = M (1 + k) j; unfold cv; simp (disch := omega) only [jset_k, jset_j, jset_same, true_and, and_true]) (fun i a b => by simp (disch := omega) only [jset_k, jset_j, jset_same, true_and, and_true])
                               · exact hI.2.2.1.2.2.2.2.2.2.2.2.2.2.1.fr (by omega) (fun k j a b => by show _ = M (1 + k) j; unfold cv; simp (disch := omega) only [jset_k, jset_j, jset_same, true_and, and_true]) (fun i a b => by simp (disch := omega) only [jset_k, jset_j, jset_same, true_and, and_true])
                               · exact hI.2.2.1.2.2.2.2.2.2.2.2.2.2.2.fr hI.2.1.2.2.2.2.2.2.2.2.2.2 (fun k j a b => by show _ = M (1 + k) j; unfold cv; simp (disch := omega) only [jset_k, jset_j, jset_same, true_and, and_true]) (fun i a b => by simp (disch := omega) only [jset_k, jset_j, jset_same, true_and, and_true]))))
            · dsimp only [jpush]
              (try simp (disch := omega) only [jset_k, jset_j, jset_same, true_and, and_true] at w11)
              first
               | (exfalso; omega)
               | (skip
                  refine e_if_eq 17 54 dX12_person_14 (by decide) (by decide) rfl (fun _ => ?_) (fun h => absurd h (by decide))
                  refine e_bipush 56 dX12_person_54 (by decide) rfl ?_
                  refine e_iret dX12_person_56 ?_
                  first
                    | (exact ⟨by omega, hI⟩)
                    | (exfalso; omega)
                    | (refine ⟨by omega, ?_⟩
                       simp only [hn.2.1]
                       refine hI.live ?_ ?_ ?_
                       · repeat (first | exact Live.rf | refine Live.c ?_ (by omega) | refine Live.r ?_ (by omega) | refine Live.s ?_ (by omega))
                       · refine ⟨?_, ?_, ?_, ?_, ?_, ?_, ?_, ?_, ?_, ?_, ?_⟩
                         · have h := hI.2.1.1
                           unfold RCnt at h ⊢
                           simp (disch := omega) only [jset_k, jset_j, jset_same, true_and, and_true]
                           omega
                         · exact hI.2.1.2.1.fr (fun i a b => by simp (disch := omega) only [jset_k, jset_j, jset_same, true_and, and_true])
                         · exact hI.2.1.2.2.1.fr (fun i a b => by simp (disch := omega) only [jset_k, jset_j, jset_same, true_and, and_true])
                         · exact hI.2.1.2.2.2.1.fr (by omega) (fun i a b => by simp (disch := omega) only [jset_k, jset_j, jset_same, true_and, and_true])
                         · intro k h0 h1
                           simp (disch := omega) only [jset_k, jset_j, jset_same, true_and, and_true] at h1
                           by_cases e : k < M 929 643
                           · have h := hI.2.1.2.2.2.2.1 k h0 e
                             simp (disch := omega) only [jset_k, jset_j, jset_same, true_and, and_true]
                             exact h
                           · have e2 : k = M 929 643 := by omega
                             subst e2
                             simp (disch := omega) only [jset_k, jset_j, jset_same, true_and, and_true]
                             omega
                         · exact hI.2.1.2.2.2.2.2.1.fr (by omega) (fun i a b => by simp (disch := omega) only [jset_k, jset_j, jset_same, true_and, and_true]) (fun i a b => by simp (disch := omega) only [jset_k, jset_j, jset_same, true_and, and_true]) (by simp (disch := omega) only [jset_k, jset_j, jset_same, true_and, and_true]; omega)
                         · exact hI.2.1.2.2.2.2.2.2.1.fr (by omega) (by simp (disch := omega) only [jset_k, jset_j, jset_same, true_and, and_true]) (fun i a b => by simp (disch := omega) only [jset_k, jset_j, jset_same, true_and, and_true])
                         · exact hI.2.1.2.2.2.2.2.2.2.1.fr (by omega) (fun i a b => by simp (disch := omega) only [jset_k, jset_j, jset_same, true_and, and_true]) (fun i a b => by simp (disch := omega) only [jset_k, jset_j, jset_same, true_and, and_true]) (by simp (disch := omega) only [jset_k, jset_j, jset_same, true_and, and_true]; omega)
                         · exact hI.2.1.2.2.2.2.2.2.2.2.1.fr (by omega) (fun i a b => by simp (disch := omega) only [jset_k, jset_j, jset_same, true_and, and_true])
                         · exact hI.2.1.2.2.2.2.2.2.2.2.2.1.fr (fun i a b => by simp (disch := omega) only [jset_k, jset_j, jset_same, true_and, and_true])
                         · exact hI.2.1.2.2.2.2.2.2.2.2.2.2.fr (fun i a b => by simp (disch := omega) only [jset_k, jset_j, jset_same, true_and, and_true])
                       · refine ⟨?_, ?_, ?_, ?_, ?_, ?_, ?_, ?_, ?_, ?_, ?_, ?_⟩
                         · have h := hC.cnt
                           unfold CCnt cv
                           simp (disch := omega) only [jset_k, jset_j, jset_same, true_and, and_true, Int.reduceAdd]
                           first | omega | exact h
                         · exact hI.2.2.1.2.1.fr hI.2.1.2.1 (by omega) (fun k j a b => by show _ = M (1 + k) j; unfold cv; simp (disch := omega) only [jset_k, jset_j, jset_same, true_and, and_true]) (fun i a b => by simp (disch := omega) only [jset_k, jset_j, jset_same, true_and, and_true])
                         · exact hI.2.2.1.2.2.1.fr hI.2.1.2.2.1 (by omega) (fun k j a b => by show _ = M (1 + k) j; unfold cv; simp (disch := omega) only [jset_k, jset_j, jset_same, true_and, and_true]) (fun i a b => by simp (disch := omega) only [jset_k, jset_j, jset_same, true_and, and_true])
                         · exact hI.2.2.1.2.2.2.1.fr (by omega) (fun k j a b => by show _ = M (1 + k) j; unfold cv; simp (disch := omega) only [jset_k, jset_j, jset_same, true_and, and_true]) (fun i a b => by simp (disch := omega) only [jset_k, jset_j, jset_same, true_and, and_true])
                         · intro k h0 h1
                           simp (disch := omega) only [jset_k, jset_j, jset_same, true_and, and_true] at h1
                           simp only [cv1, Int.reduceAdd]
                           by_cases e : k < M 929 643
                           · have h := (hC.pers h0 e).1
                             simp (disch := omega) only [jset_k, jset_j, jset_same, true_and, and_true]
                             exact h
                           · have e2 : k = M 929 643 := by omega
                             subst e2
                             simp (disch := omega) only [jset_k, jset_j, jset_same, true_and, and_true]
                             all_goals (first | omega | simp)
                         · exact hI.2.2.1.2.2.2.2.2.1.fr (by omega) (fun k j a b => by show _ = M (1 + k) j; unfold cv; simp (disch := omega) only [jset_k, jset_j, jset_same, true_and, and_true]) (fun i a b => by simp (disch := omega) only [jset_k, jset_j, jset_same, true_and, and_true]) (fun i a b => by simp (disch := omega) only [jset_k, jset_j, jset_same, true_and, and_true])
                         · exact hI.2.2.1.2.2.2.2.2.2.1.fr (by omega) (fun k j a b => by show _ = M (1 + k) j; unfold cv; simp (disch := omega) only [jset_k, jset_j, jset_same, true_and, and_true]) (fun i a b => by simp (disch := omega) only [jset_k, jset_j, jset_same, true_and, and_true]) (fun i a b => by simp (disch := omega) only [jset_k, jset_j, jset_same, true_and, and_true])
                         · exact hI.2.2.1.2.2.2.2.2.2.2.1.fr (by omega) (fun k j a b => by show _ = M (1 + k) j; unfold cv; simp (disch := omega) only [jset_k, jset_j, jset_same, true_and, and_true]) (fun i a b => by simp (disch := omega) only [jset_k, jset_j, jset_same, true_and, and_true])
                         · exact hI.2.2.1.2.2.2.2.2.2.2.2.1.fr (fun k j a b => by show _ = M (1 + k) j; unfold cv; simp (disch := omega) only [jset_k, jset_j, jset_same, true_and, and_true]) (fun i a b => by simp (disch := omega) only [jset_k, jset_j, jset_same, true_and, and_true])
                         · exact hI.2.2.1.2.2.2.2.2.2.2.2.2.1.fr (fun k j a b => by show _ = M (1 + k) j; unfold cv; simp (disch := omega) only [jset_k, jset_j, jset_same, true_and, and_true]) (fun i a b => by simp (disch := omega) only [jset_k, jset_j, jset_same, true_and, and_true])
                         · exact hI.2.2.1.2.2.2.2.2.2.2.2.2.2.1.fr (by omega) (fun k j a b => by show _ = M (1 + k) j; unfold cv; simp (disch := omega) only [jset_k, jset_j, jset_same, true_and, and_true]) (fun i a b => by simp (disch := omega) only [jset_k, jset_j, jset_same, true_and, and_true])
                         · exact hI.2.2.1.2.2.2.2.2.2.2.2.2.2.2.fr hI.2.1.2.2.2.2.2.2.2.2.2.2 (fun k j a b => by show _ = M (1 + k) j; unfold cv; simp (disch := omega) only [jset_k, jset_j, jset_same, true_and, and_true]) (fun i a b => by simp (disch := omega) only [jset_k, jset_j, jset_same, true_and, and_true])))
          · skip
            refine e_bipush 62 dX11_person_60 (by decide) rfl ?_
            refine e_iret dX11_person_62 ?_
            refine jCt_of mt_yX12_person (Nat.le_of_ble_eq_true rfl) (fun X2 => ?_)
            refine e_aload_n (i := 0) 1 dX12_person_0 rfl rfl rfl ?_
            refine e_iconst 2 dX12_person_1 rfl ?_
            refine e_put0 (j := 0) 5 fl_12_1 dX12_person_2 at_928 rfl rfl rfl (by decide) hI.1 rfl ?_
            refine e_iload_n (i := 1) 6 dX12_person_5 rfl rfl rfl ?_
            refine e_i2l 7 dX12_person_6 (by omega) rfl ?_
            refine e_lconst0 8 dX12_person_7 rfl ?_
            refine e_ldc2 (z := (999)) 11 (ix := 198) wd_1482 (by decide) dX12_person_8 rfl ?_
            refine e_callS 14 mt_yX12_within ms_yX12_within wd_1390 (by decide) dX12_person_11 rfl rfl (Nat.le_of_ble_eq_true rfl) (jroom (by decide)) rfl (m_within (by omega) (by omega) (by omega) (fun w11 => ?_) (fun w11 => ?_))
            · dsimp only [jpush]
              first
               | (exfalso; omega)
               | (skip
                  refine e_if_eq 17 54 dX12_person_14 (by decide) (by decide) rfl (fun h => absurd h (by decide)) (fun _ => ?_)
                  refine e_iload_n (i := 2) 18 dX12_person_17 rfl rfl rfl ?_
                  refine e_i2l 19 dX12_person_18 (by omega) rfl ?_
                  refine e_lconst0 20 dX12_person_19 rfl ?_
                  refine e_ldc2 (z := (999)) 23 (ix := 198) wd_1482 (by decide) dX12_person_20 rfl ?_
                  refine e_callS 26 mt_yX12_within ms_yX12_within wd_1390 (by decide) dX12_person_23 rfl rfl (Nat.le_of_ble_eq_true rfl) (jroom (by decide)) rfl (m_within (by omega) (by omega) (by omega) (fun w23 => ?_) (fun w23 => ?_))
                  · dsimp only [jpush]
                    first
                     | (exfalso; omega)
                     | (skip
                        refine e_if_eq 29 54 dX12_person_26 (by decide) (by decide) rfl (fun h => absurd h (by decide)) (fun _ => ?_)
                        refine e_iload_n (i := 3) 30 dX12_person_29 rfl rfl rfl ?_
                        refine e_i2l 31 dX12_person_30 (by omega) rfl ?_
                        refine e_lconst0 32 dX12_person_31 rfl ?_
                        refine e_ldc2 (z := (999)) 35 (ix := 198) wd_1482 (by decide) dX12_person_32 rfl ?_
                        refine e_callS 38 mt_yX12_within ms_yX12_within wd_1390 (by decide) dX12_person_35 rfl rfl (Nat.le_of_ble_eq_true rfl) (jroom (by decide)) rfl (m_within (by omega) (by omega) (by omega) (fun w35 => ?_) (fun w35 => ?_))
                        · dsimp only [jpush]
                          first
                           | (exfalso; omega)
                           | (skip
                              refine e_if_eq 41 54 dX12_person_38 (by decide) (by decide) rfl (fun h => absurd h (by decide)) (fun _ => ?_)
                              refine e_iload 43 dX12_person_41 rfl rfl ?_
                              refine e_i2l 44 dX12_person_43 (by omega) rfl ?_
                              refine e_lconst0 45 dX12_person_44 rfl ?_
                              refine e_ldc2 (z := (9999)) 48 (ix := 213) wd_1501 (by decide) dX12_person_45 rfl ?_
                              refine e_callS 51 mt_yX12_within ms_yX12_within wd_1390 (by decide) dX12_person_48 rfl rfl (Nat.le_of_ble_eq_true rfl) (jroom (by decide)) rfl (m_within (by omega) (by omega) (by omega) (fun w48 => ?_) (fun w48 => ?_))
                              · dsimp only [jpush]
                                first
                                 | (exfalso; omega)
                                 | (skip
                                    refine e_if_ne 54 57 dX12_person_51 (by decide) (by decide) rfl (fun _ => ?_) (fun h => absurd h (by decide))
                                    refine e_aload_n (i := 0) 58 dX12_person_57 rfl rfl rfl ?_
                                    refine e_getr (j := 1) 61 fl_12_13 dX12_person_58 at_928 rfl rfl tp_928_1 rfl ?_
                                    refine e_sipush 64 dX12_person_61 (by decide) rfl ?_
                                    refine e_iald 65 dX12_person_64 ar_929 (by decide) (by decide) rfl (fun r64 => ?_)
                                    refine e_istore (lsn := [(5, _), (0, _), (1, _), (2, _), (3, _), (4, _)]) 67 dX12_person_65 (by decide) rfl rfl ?_
                                    refine e_iload 69 dX12_person_67 rfl rfl ?_
                                    refine e_bipush 71 dX12_person_69 (by decide) rfl ?_
                                    refine e_icmp_ne 74 77 dX12_person_71 (by omega) (by decide) (by decide) rfl (fun b71 => ?_) (fun b71 => ?_)
                                    · first
                                       | (exfalso; omega)
                                       | (skip
                                          refine e_aload_n (i := 0) 78 dX12_person_77 rfl rfl rfl ?_
                                          refine e_getr (j := 1) 81 fl_12_13 dX12_person_78 at_928 rfl rfl tp_928_1 rfl ?_
                                          refine e_sipush 84 dX12_person_81 (by decide) rfl ?_
                                          refine e_iload 86 dX12_person_84 rfl rfl ?_
                                          refine e_iadd 87 dX12_person_86 rfl ?_
                                          refine e_iload_n (i := 1) 88 dX12_person_87 rfl rfl rfl ?_
                                          refine e_iast 89 dX12_person_88 ar_929 (by omega) (by omega) (by omega) rfl ?_
                                          refine e_aload_n (i := 0) 90 dX12_person_89 rfl rfl rfl ?_
                                          refine e_getr (j := 1) 93 fl_12_13 dX12_person_90 at_928 rfl rfl tp_928_1 rfl ?_
                                          refine e_sipush 96 dX12_person_93 (by decide) rfl ?_
                                          refine e_iload 98 dX12_person_96 rfl rfl ?_
                                          refine e_iadd 99 dX12_person_98 rfl ?_
                                          refine e_iload_n (i := 2) 100 dX12_person_99 rfl rfl rfl ?_
                                          refine e_iast 101 dX12_person_100 ar_929 (by omega) (by omega) (by omega) rfl ?_
                                          refine e_aload_n (i := 0) 102 dX12_person_101 rfl rfl rfl ?_
                                          refine e_getr (j := 1) 105 fl_12_13 dX12_person_102 at_928 rfl rfl tp_928_1 rfl ?_
                                          refine e_sipush 108 dX12_person_105 (by decide) rfl ?_
                                          refine e_iload 110 dX12_person_108 rfl rfl ?_
                                          refine e_iadd 111 dX12_person_110 rfl ?_
                                          refine e_iload_n (i := 3) 112 dX12_person_111 rfl rfl rfl ?_
                                          refine e_iast 113 dX12_person_112 ar_929 (by omega) (by omega) (by omega) rfl ?_
                                          refine e_aload_n (i := 0) 114 dX12_person_113 rfl rfl rfl ?_
                                          refine e_getr (j := 1) 117 fl_12_13 dX12_person_114 at_928 rfl rfl tp_928_1 rfl ?_
                                          refine e_sipush 120 dX12_person_117 (by decide) rfl ?_
                                          refine e_iload 122 dX12_person_120 rfl rfl ?_
                                          refine e_iadd 123 dX12_person_122 rfl ?_
                                          refine e_iconst 124 dX12_person_123 rfl ?_
                                          refine e_iload 126 dX12_person_124 rfl rfl ?_
                                          refine e_imul 127 dX12_person_126 rfl ?_
                                          refine e_iast 128 dX12_person_127 ar_929 (by omega) (by omega) (by omega) rfl ?_
                                          refine e_aload_n (i := 0) 129 dX12_person_128 rfl rfl rfl ?_
                                          refine e_getr (j := 1) 132 fl_12_13 dX12_person_129 at_928 rfl rfl tp_928_1 rfl ?_
                                          refine e_sipush 135 dX12_person_132 (by decide) rfl ?_
                                          refine e_iload 137 dX12_person_135 rfl rfl ?_
                                          refine e_iadd 138 dX12_person_137 rfl ?_
                                          refine e_iconst 139 dX12_person_138 rfl ?_
                                          refine e_iast 140 dX12_person_139 ar_929 (by omega) (by omega) (by decide) rfl ?_
                                          refine e_aload_n (i := 0) 141 dX12_person_140 rfl rfl rfl ?_
                                          refine e_getr (j := 1) 144 fl_12_13 dX12_person_141 at_928 rfl rfl tp_928_1 rfl ?_
                                          refine e_sipush 147 dX12_person_144 (by decide) rfl ?_
                                          refine e_dup2 148 dX12_person_147 rfl rfl rfl ?_
                                          refine e_iald 149 dX12_person_148 ar_929 (by decide) (by decide) rfl (fun r148 => ?_)
                                          simp (disch := omega) only [jset_k, jset_j, jset_same, true_and, and_true] at r148 ⊢
                                          refine e_iconst 150 dX12_person_149 rfl ?_
                                          refine e_iadd 151 dX12_person_150 rfl ?_
                                          refine e_iast 152 dX12_person_151 ar_929 (by decide) (by decide) (by omega) rfl ?_
                                          refine e_iload 154 dX12_person_152 rfl rfl ?_
                                          refine e_iret dX12_person_154 ?_
                                          first
                                            | (exact ⟨by omega, hI⟩)
                                            | (exfalso; omega)
                                            | (refine ⟨by omega, ?_⟩
                                               simp only [hn.2.1]
                                               refine hI.live ?_ ?_ ?_
                                               · repeat (first | exact Live.rf | refine Live.c ?_ (by omega) | refine Live.r ?_ (by omega) | refine Live.s ?_ (by omega))
                                               · refine ⟨?_, ?_, ?_, ?_, ?_, ?_, ?_, ?_, ?_, ?_, ?_⟩
                                                 · have h := hI.2.1.1
                                                   unfold RCnt at h ⊢
                                                   simp (disch := omega) only [jset_k, jset_j, jset_same, true_and, and_true]
                                                   omega
                                                 · exact hI.2.1.2.1.fr (fun i a b => by simp (disch := omega) only [jset_k, jset_j, jset_same, true_and, and_true])
                                                 · exact hI.2.1.2.2.1.fr (fun i a b => by simp (disch := omega) only [jset_k, jset_j, jset_same, true_and, and_true])
                                                 · exact hI.2.1.2.2.2.1.fr (by omega) (fun i a b => by simp (disch := omega) only [jset_k, jset_j, jset_same, true_and, and_true])
                                                 · intro k h0 h1
                                                   simp (disch := omega) only [jset_k, jset_j, jset_same, true_and, and_true] at h1
                                                   by_cases e : k < M 929 643
                                                   · have h := hI.2.1.2.2.2.2.1 k h0 e
                                                     simp (disch := omega) only [jset_k, jset_j, jset_same, true_and, and_true]
                                                     exact h
                                                   · have e2 : k = M 929 643 := by omega
                                                     subst e2
                                                     simp (disch := omega) only [jset_k, jset_j, jset_same, true_and, and_true]
                                                     omega
                                                 · exact hI.2.1.2.2.2.2.2.1.fr (by omega) (fun i a b => by simp (disch := omega) only [jset_k, jset_j, jset_same, true_and, and_true]) (fun i a b => by simp (disch := omega) only [jset_k, jset_j, jset_same, true_and, and_true]) (by simp (disch := omega) only [jset_k, jset_j, jset_same, true_and, and_true]; omega)
                                                 · exact hI.2.1.2.2.2.2.2.2.1.fr (by omega) (by simp (disch := omega) only [jset_k, jset_j, jset_same, true_and, and_true]) (fun i a b => by simp (disch := omega) only [jset_k, jset_j, jset_same, true_and, and_true])
                                                 · exact hI.2.1.2.2.2.2.2.2.2.1.fr (by omega) (fun i a b => by simp (disch := omega) only [jset_k, jset_j, jset_same, true_and, and_true]) (fun i a b => by simp (disch := omega) only [jset_k, jset_j, jset_same, true_and, and_true]) (by simp (disch := omega) only [jset_k, jset_j, jset_same, true_and, and_true]; omega)
                                                 · exact hI.2.1.2.2.2.2.2.2.2.2.1.fr (by omega) (fun i a b => by simp (disch := omega) only [jset_k, jset_j, jset_same, true_and, and_true])
                                                 · exact hI.2.1.2.2.2.2.2.2.2.2.2.1.fr (fun i a b => by simp (disch := omega) only [jset_k, jset_j, jset_same, true_and, and_true])
                                                 · exact hI.2.1.2.2.2.2.2.2.2.2.2.2.fr (fun i a b => by simp (disch := omega) only [jset_k, jset_j, jset_same, true_and, and_true])
                                               · refine ⟨?_, ?_, ?_, ?_, ?_, ?_, ?_, ?_, ?_, ?_, ?_, ?_⟩
                                                 · have h := hC.cnt
                                                   unfold CCnt cv
                                                   simp (disch := omega) only [jset_k, jset_j, jset_same, true_and, and_true, Int.reduceAdd]
                                                   first | omega | exact h
                                                 · exact hI.2.2.1.2.1.fr hI.2.1.2.1 (by omega) (fun k j a b => by show _ = M (1 + k) j; unfold cv; simp (disch := omega) only [jset_k, jset_j, jset_same, true_and, and_true]) (fun i a b => by simp (disch := omega) only [jset_k, jset_j, jset_same, true_and, and_true])
                                                 · exact hI.2.2.1.2.2.1.fr hI.2.1.2.2.1 (by omega) (fun k j a b => by show _ = M (1 + k) j; unfold cv; simp (disch := omega) only [jset_k, jset_j, jset_same, true_and, and_true]) (fun i a b => by simp (disch := omega) only [jset_k, jset_j, jset_same, true_and, and_true])
                                                 · exact hI.2.2.1.2.2.2.1.fr (by omega) (fun k j a b => by show _ = M (1 + k) j; unfold cv; simp (disch := omega) only [jset_k, jset_j, jset_same, true_and, and_true]) (fun i a b => by simp (disch := omega) only [jset_k, jset_j, jset_same, true_and, and_true])
                                                 · intro k h0 h1
                                                   simp (disch := omega) only [jset_k, jset_j, jset_same, true_and, and_true] at h1
                                                   simp only [cv1, Int.reduceAdd]
                                                   by_cases e : k < M 929 643
                                                   · have h := (hC.pers h0 e).1
                                                     simp (disch := omega) only [jset_k, jset_j, jset_same, true_and, and_true]
                                                     exact h
                                                   · have e2 : k = M 929 643 := by omega
                                                     subst e2
                                                     simp (disch := omega) only [jset_k, jset_j, jset_same, true_and, and_true]
                                                     all_goals (first | omega | simp)
                                                 · exact hI.2.2.1.2.2.2.2.2.1.fr (by omega) (fun k j a b => by show _ = M (1 + k) j; unfold cv; simp (disch := omega) only [jset_k, jset_j, jset_same, true_and, and_true]) (fun i a b => by simp (disch := omega) only [jset_k, jset_j, jset_same, true_and, and_true]) (fun i a b => by simp (disch := omega) only [jset_k, jset_j, jset_same, true_and, and_true])
                                                 · exact hI.2.2.1.2.2.2.2.2.2.1.fr (by omega) (fun k j a b => by show _ = M (1 + k) j; unfold cv; simp (disch := omega) only [jset_k, jset_j, jset_same, true_and, and_true]) (fun i a b => by simp (disch := omega) only [jset_k, jset_j, jset_same, true_and, and_true]) (fun i a b => by simp (disch := omega) only [jset_k, jset_j, jset_same, true_and, and_true])
                                                 · exact hI.2.2.1.2.2.2.2.2.2.2.1.fr (by omega) (fun k j a b => by show _ = M (1 + k) j; unfold cv; simp (disch := omega) only [jset_k, jset_j, jset_same, true_and, and_true]) (fun i a b => by simp (disch := omega) only [jset_k, jset_j, jset_same, true_and, and_true])
                                                 · exact hI.2.2.1.2.2.2.2.2.2.2.2.1.fr (fun k j a b => by show _ = M (1 + k) j; unfold cv; simp (disch := omega) only [jset_k, jset_j, jset_same, true_and, and_true]) (fun i a b => by simp (disch := omega) only [jset_k, jset_j, jset_same, true_and, and_true])
                                                 · exact hI.2.2.1.2.2.2.2.2.2.2.2.2.1.fr (fun k j a b => by show _ = M (1 + k) j; unfold cv; simp (disch := omega) only [jset_k, jset_j, jset_same, true_and, and_true]) (fun i a b => by simp (disch := omega) only [jset_k, jset_j, jset_same, true_and, and_true])
                                                 · exact hI.2.2.1.2.2.2.2.2.2.2.2.2.2.1.fr (by omega) (fun k j a b => by show _ = M (1 + k) j; unfold cv; simp (disch := omega) only [jset_k, jset_j, jset_same, true_and, and_true]) (fun i a b => by simp (disch := omega) only [jset_k, jset_j, jset_same, true_and, and_true])
                                                 · exact hI.2.2.1.2.2.2.2.2.2.2.2.2.2.2.fr hI.2.1.2.2.2.2.2.2.2.2.2.2 (fun k j a b => by show _ = M (1 + k) j; unfold cv; simp (disch := omega) only [jset_k, jset_j, jset_same, true_and, and_true]) (fun i a b => by simp (disch := omega) only [jset_k, jset_j, jset_same, true_and, and_true])))
                                    · first
                                       | (exfalso; omega)
                                       | (skip
                                          refine e_bipush 76 dX12_person_74 (by decide) rfl ?_
                                          refine e_iret dX12_person_76 ?_
                                          first
                                            | (exact ⟨by omega, hI⟩)
                                            | (exfalso; omega)))
                              · dsimp only [jpush]
                                first
                                 | (exfalso; omega)
                                 | (skip
                                    refine e_if_ne 54 57 dX12_person_51 (by decide) (by decide) rfl (fun h => absurd h (by decide)) (fun _ => ?_)
                                    refine e_bipush 56 dX12_person_54 (by decide) rfl ?_
                                    refine e_iret dX12_person_56 ?_
                                    first
                                      | (exact ⟨by omega, hI⟩)
                                      | (exfalso; omega)))
                        · dsimp only [jpush]
                          first
                           | (exfalso; omega)
                           | (skip
                              refine e_if_eq 41 54 dX12_person_38 (by decide) (by decide) rfl (fun _ => ?_) (fun h => absurd h (by decide))
                              refine e_bipush 56 dX12_person_54 (by decide) rfl ?_
                              refine e_iret dX12_person_56 ?_
                              first
                                | (exact ⟨by omega, hI⟩)
                                | (exfalso; omega)))
                  · dsimp only [jpush]
                    first
                     | (exfalso; omega)
                     | (skip
                        refine e_if_eq 29 54 dX12_person_26 (by decide) (by decide) rfl (fun _ => ?_) (fun h => absurd h (by decide))
                        refine e_bipush 56 dX12_person_54 (by decide) rfl ?_
                        refine e_iret dX12_person_56 ?_
                        first
                          | (exact ⟨by omega, hI⟩)
                          | (exfalso; omega)))
            · dsimp only [jpush]
              first
               | (exfalso; omega)
               | (skip
                  refine e_if_eq 17 54 dX12_person_14 (by decide) (by decide) rfl (fun _ => ?_) (fun h => absurd h (by decide))
                  refine e_bipush 56 dX12_person_54 (by decide) rfl ?_
                  refine e_iret dX12_person_56 ?_
                  first
                    | (exact ⟨by omega, hI⟩)
                    | (exfalso; omega))
        · dsimp only [jpush]
          refine e_if_ne 45 48 dX11_person_42 (by decide) (by decide) rfl (fun h => absurd h (by decide)) (fun _ => ?_)
          refine e_bipush 47 dX11_person_45 (by decide) rfl ?_
          refine e_iret dX11_person_47 ?_
          refine jCt_of mt_yX12_person (Nat.le_of_ble_eq_true rfl) (fun X2 => ?_)
          refine e_aload_n (i := 0) 1 dX12_person_0 rfl rfl rfl ?_
          refine e_iconst 2 dX12_person_1 rfl ?_
          refine e_put0 (j := 0) 5 fl_12_1 dX12_person_2 at_928 rfl rfl rfl (by decide) hI.1 rfl ?_
          refine e_iload_n (i := 1) 6 dX12_person_5 rfl rfl rfl ?_
          refine e_i2l 7 dX12_person_6 (by omega) rfl ?_
          refine e_lconst0 8 dX12_person_7 rfl ?_
          refine e_ldc2 (z := (999)) 11 (ix := 198) wd_1482 (by decide) dX12_person_8 rfl ?_
          refine e_callS 14 mt_yX12_within ms_yX12_within wd_1390 (by decide) dX12_person_11 rfl rfl (Nat.le_of_ble_eq_true rfl) (jroom (by decide)) rfl (m_within (by omega) (by omega) (by omega) (fun w11 => ?_) (fun w11 => ?_))
          · dsimp only [jpush]
            first
             | (exfalso; omega)
             | (skip
                refine e_if_eq 17 54 dX12_person_14 (by decide) (by decide) rfl (fun h => absurd h (by decide)) (fun _ => ?_)
                refine e_iload_n (i := 2) 18 dX12_person_17 rfl rfl rfl ?_
                refine e_i2l 19 dX12_person_18 (by omega) rfl ?_
                refine e_lconst0 20 dX12_person_19 rfl ?_
                refine e_ldc2 (z := (999)) 23 (ix := 198) wd_1482 (by decide) dX12_person_20 rfl ?_
                refine e_callS 26 mt_yX12_within ms_yX12_within wd_1390 (by decide) dX12_person_23 rfl rfl (Nat.le_of_ble_eq_true rfl) (jroom (by decide)) rfl (m_within (by omega) (by omega) (by omega) (fun w23 => ?_) (fun w23 => ?_))
                · dsimp only [jpush]
                  first
                   | (exfalso; omega)
                   | (skip
                      refine e_if_eq 29 54 dX12_person_26 (by decide) (by decide) rfl (fun h => absurd h (by decide)) (fun _ => ?_)
                      refine e_iload_n (i := 3) 30 dX12_person_29 rfl rfl rfl ?_
                      refine e_i2l 31 dX12_person_30 (by omega) rfl ?_
                      refine e_lconst0 32 dX12_person_31 rfl ?_
                      refine e_ldc2 (z := (999)) 35 (ix := 198) wd_1482 (by decide) dX12_person_32 rfl ?_
                      refine e_callS 38 mt_yX12_within ms_yX12_within wd_1390 (by decide) dX12_person_35 rfl rfl (Nat.le_of_ble_eq_true rfl) (jroom (by decide)) rfl (m_within (by omega) (by omega) (by omega) (fun w35 => ?_) (fun w35 => ?_))
                      · dsimp only [jpush]
                        first
                         | (exfalso; omega)
                         | (skip
                            refine e_if_eq 41 54 dX12_person_38 (by decide) (by decide) rfl (fun h => absurd h (by decide)) (fun _ => ?_)
                            refine e_iload 43 dX12_person_41 rfl rfl ?_
                            refine e_i2l 44 dX12_person_43 (by omega) rfl ?_
                            refine e_lconst0 45 dX12_person_44 rfl ?_
                            refine e_ldc2 (z := (9999)) 48 (ix := 213) wd_1501 (by decide) dX12_person_45 rfl ?_
                            refine e_callS 51 mt_yX12_within ms_yX12_within wd_1390 (by decide) dX12_person_48 rfl rfl (Nat.le_of_ble_eq_true rfl) (jroom (by decide)) rfl (m_within (by omega) (by omega) (by omega) (fun w48 => ?_) (fun w48 => ?_))
                            · dsimp only [jpush]
                              first
                               | (exfalso; omega)
                               | (skip
                                  refine e_if_ne 54 57 dX12_person_51 (by decide) (by decide) rfl (fun _ => ?_) (fun h => absurd h (by decide))
                                  refine e_aload_n (i := 0) 58 dX12_person_57 rfl rfl rfl ?_
                                  refine e_getr (j := 1) 61 fl_12_13 dX12_person_58 at_928 rfl rfl tp_928_1 rfl ?_
                                  refine e_sipush 64 dX12_person_61 (by decide) rfl ?_
                                  refine e_iald 65 dX12_person_64 ar_929 (by decide) (by decide) rfl (fun r64 => ?_)
                                  refine e_istore (lsn := [(5, _), (0, _), (1, _), (2, _), (3, _), (4, _)]) 67 dX12_person_65 (by decide) rfl rfl ?_
                                  refine e_iload 69 dX12_person_67 rfl rfl ?_
                                  refine e_bipush 71 dX12_person_69 (by decide) rfl ?_
                                  refine e_icmp_ne 74 77 dX12_person_71 (by omega) (by decide) (by decide) rfl (fun b71 => ?_) (fun b71 => ?_)
                                  · first
                                     | (exfalso; omega)
                                     | (skip
                                        refine e_aload_n (i := 0) 78 dX12_person_77 rfl rfl rfl ?_
                                        refine e_getr (j := 1) 81 fl_12_13 dX12_person_78 at_928 rfl rfl tp_928_1 rfl ?_
                                        refine e_sipush 84 dX12_person_81 (by decide) rfl ?_
                                        refine e_iload 86 dX12_person_84 rfl rfl ?_
                                        refine e_iadd 87 dX12_person_86 rfl ?_
                                        refine e_iload_n (i := 1) 88 dX12_person_87 rfl rfl rfl ?_
                                        refine e_iast 89 dX12_person_88 ar_929 (by omega) (by omega) (by omega) rfl ?_
                                        refine e_aload_n (i := 0) 90 dX12_person_89 rfl rfl rfl ?_
                                        refine e_getr (j := 1) 93 fl_12_13 dX12_person_90 at_928 rfl rfl tp_928_1 rfl ?_
                                        refine e_sipush 96 dX12_person_93 (by decide) rfl ?_
                                        refine e_iload 98 dX12_person_96 rfl rfl ?_
                                        refine e_iadd 99 dX12_person_98 rfl ?_
                                        refine e_iload_n (i := 2) 100 dX12_person_99 rfl rfl rfl ?_
                                        refine e_iast 101 dX12_person_100 ar_929 (by omega) (by omega) (by omega) rfl ?_
                                        refine e_aload_n (i := 0) 102 dX12_person_101 rfl rfl rfl ?_
                                        refine e_getr (j := 1) 105 fl_12_13 dX12_person_102 at_928 rfl rfl tp_928_1 rfl ?_
                                        refine e_sipush 108 dX12_person_105 (by decide) rfl ?_
                                        refine e_iload 110 dX12_person_108 rfl rfl ?_
                                        refine e_iadd 111 dX12_person_110 rfl ?_
                                        refine e_iload_n (i := 3) 112 dX12_person_111 rfl rfl rfl ?_
                                        refine e_iast 113 dX12_person_112 ar_929 (by omega) (by omega) (by omega) rfl ?_
                                        refine e_aload_n (i := 0) 114 dX12_person_113 rfl rfl rfl ?_
                                        refine e_getr (j := 1) 117 fl_12_13 dX12_person_114 at_928 rfl rfl tp_928_1 rfl ?_
                                        refine e_sipush 120 dX12_person_117 (by decide) rfl ?_
                                        refine e_iload 122 dX12_person_120 rfl rfl ?_
                                        refine e_iadd 123 dX12_person_122 rfl ?_
                                        refine e_iconst 124 dX12_person_123 rfl ?_
                                        refine e_iload 126 dX12_person_124 rfl rfl ?_
                                        refine e_imul 127 dX12_person_126 rfl ?_
                                        refine e_iast 128 dX12_person_127 ar_929 (by omega) (by omega) (by omega) rfl ?_
                                        refine e_aload_n (i := 0) 129 dX12_person_128 rfl rfl rfl ?_
                                        refine e_getr (j := 1) 132 fl_12_13 dX12_person_129 at_928 rfl rfl tp_928_1 rfl ?_
                                        refine e_sipush 135 dX12_person_132 (by decide) rfl ?_
                                        refine e_iload 137 dX12_person_135 rfl rfl ?_
                                        refine e_iadd 138 dX12_person_137 rfl ?_
                                        refine e_iconst 139 dX12_person_138 rfl ?_
                                        refine e_iast 140 dX12_person_139 ar_929 (by omega) (by omega) (by decide) rfl ?_
                                        refine e_aload_n (i := 0) 141 dX12_person_140 rfl rfl rfl ?_
                                        refine e_getr (j := 1) 144 fl_12_13 dX12_person_141 at_928 rfl rfl tp_928_1 rfl ?_
                                        refine e_sipush 147 dX12_person_144 (by decide) rfl ?_
                                        refine e_dup2 148 dX12_person_147 rfl rfl rfl ?_
                                        refine e_iald 149 dX12_person_148 ar_929 (by decide) (by decide) rfl (fun r148 => ?_)
                                        simp (disch := omega) only [jset_k, jset_j, jset_same, true_and, and_true] at r148 ⊢
                                        refine e_iconst 150 dX12_person_149 rfl ?_
                                        refine e_iadd 151 dX12_person_150 rfl ?_
                                        refine e_iast 152 dX12_person_151 ar_929 (by decide) (by decide) (by omega) rfl ?_
                                        refine e_iload 154 dX12_person_152 rfl rfl ?_
                                        refine e_iret dX12_person_154 ?_
                                        first
                                          | (exact ⟨by omega, hI⟩)
                                          | (exfalso; omega)
                                          | (refine ⟨by omega, ?_⟩
                                             simp only [hn.2.1]
                                             refine hI.live ?_ ?_ ?_
                                             · repeat (first | exact Live.rf | refine Live.c ?_ (by omega) | refine Live.r ?_ (by omega) | refine Live.s ?_ (by omega))
                                             · refine ⟨?_, ?_, ?_, ?_, ?_, ?_, ?_, ?_, ?_, ?_, ?_⟩
                                               · have h := hI.2.1.1
                                                 unfold RCnt at h ⊢
                                                 simp (disch := omega) only [jset_k, jset_j, jset_same, true_and, and_true]
                                                 omega
                                               · exact hI.2.1.2.1.fr (fun i a b => by simp (disch := omega) only [jset_k, jset_j, jset_same, true_and, and_true])
                                               · exact hI.2.1.2.2.1.fr (fun i a b => by simp (disch := omega) only [jset_k, jset_j, jset_same, true_and, and_true])
                                               · exact hI.2.1.2.2.2.1.fr (by omega) (fun i a b => by simp (disch := omega) only [jset_k, jset_j, jset_same, true_and, and_true])
                                               · intro k h0 h1
                                                 simp (disch := omega) only [jset_k, jset_j, jset_same, true_and, and_true] at h1
                                                 by_cases e : k < M 929 643
                                                 · have h := hI.2.1.2.2.2.2.1 k h0 e
                                                   simp (disch := omega) only [jset_k, jset_j, jset_same, true_and, and_true]
                                                   exact h
                                                 · have e2 : k = M 929 643 := by omega
                                                   subst e2
                                                   simp (disch := omega) only [jset_k, jset_j, jset_same, true_and, and_true]
                                                   omega
                                               · exact hI.2.1.2.2.2.2.2.1.fr (by omega) (fun i a b => by simp (disch := omega) only [jset_k, jset_j, jset_same, true_and, and_true]) (fun i a b => by simp (disch := omega) only [jset_k, jset_j, jset_same, true_and, and_true]) (by simp (disch := omega) only [jset_k, jset_j, jset_same, true_and, and_true]; omega)
                                               · exact hI.2.1.2.2.2.2.2.2.1.fr (by omega) (by simp (disch := omega) only [jset_k, jset_j, jset_same, true_and, and_true]) (fun i a b => by simp (disch := omega) only [jset_k, jset_j, jset_same, true_and, and_true])
                                               · exact hI.2.1.2.2.2.2.2.2.2.1.fr (by omega) (fun i a b => by simp (disch := omega) only [jset_k, jset_j, jset_same, true_and, and_true]) (fun i a b => by simp (disch := omega) only [jset_k, jset_j, jset_same, true_and, and_true]) (by simp (disch := omega) only [jset_k, jset_j, jset_same, true_and, and_true]; omega)
                                               · exact hI.2.1.2.2.2.2.2.2.2.2.1.fr (by omega) (fun i a b => by simp (disch := omega) only [jset_k, jset_j, jset_same, true_and, and_true])
                                               · exact hI.2.1.2.2.2.2.2.2.2.2.2.1.fr (fun i a b => by simp (disch := omega) only [jset_k, jset_j, jset_same, true_and, and_true])
                                               · exact hI.2.1.2.2.2.2.2.2.2.2.2.2.fr (fun i a b => by simp (disch := omega) only [jset_k, jset_j, jset_same, true_and, and_true])
                                             · refine ⟨?_, ?_, ?_, ?_, ?_, ?_, ?_, ?_, ?_, ?_, ?_, ?_⟩
                                               · have h := hC.cnt
                                                 unfold CCnt cv
                                                 simp (disch := omega) only [jset_k, jset_j, jset_same, true_and, and_true, Int.reduceAdd]
                                                 first | omega | exact h
                                               · exact hI.2.2.1.2.1.fr hI.2.1.2.1 (by omega) (fun k j a b => by show _ = M (1 + k) j; unfold cv; simp (disch := omega) only [jset_k, jset_j, jset_same, true_and, and_true]) (fun i a b => by simp (disch := omega) only [jset_k, jset_j, jset_same, true_and, and_true])
                                               · exact hI.2.2.1.2.2.1.fr hI.2.1.2.2.1 (by omega) (fun k j a b => by show _ = M (1 + k) j; unfold cv; simp (disch := omega) only [jset_k, jset_j, jset_same, true_and, and_true]) (fun i a b => by simp (disch := omega) only [jset_k, jset_j, jset_same, true_and, and_true])
                                               · exact hI.2.2.1.2.2.2.1.fr (by omega) (fun k j a b => by show _ = M (1 + k) j; unfold cv; simp (disch := omega) only [jset_k, jset_j, jset_same, true_and, and_true]) (fun i a b => by simp (disch := omega) only [jset_k, jset_j, jset_same, true_and, and_true])
                                               · intro k h0 h1
                                                 simp (disch := omega) only [jset_k, jset_j, jset_same, true_and, and_true] at h1
                                                 simp only [cv1, Int.reduceAdd]
                                                 by_cases e : k < M 929 643
                                                 · have h := (hC.pers h0 e).1
                                                   simp (disch := omega) only [jset_k, jset_j, jset_same, true_and, and_true]
                                                   exact h
                                                 · have e2 : k = M 929 643 := by omega
                                                   subst e2
                                                   simp (disch := omega) only [jset_k, jset_j, jset_same, true_and, and_true]
                                                   all_goals (first | omega | simp)
                                               · exact hI.2.2.1.2.2.2.2.2.1.fr (by omega) (fun k j a b => by show _ = M (1 + k) j; unfold cv; simp (disch := omega) only [jset_k, jset_j, jset_same, true_and, and_true]) (fun i a b => by simp (disch := omega) only [jset_k, jset_j, jset_same, true_and, and_true]) (fun i a b => by simp (disch := omega) only [jset_k, jset_j, jset_same, true_and, and_true])
                                               · exact hI.2.2.1.2.2.2.2.2.2.1.fr (by omega) (fun k j a b => by show _ = M (1 + k) j; unfold cv; simp (disch := omega) only [jset_k, jset_j, jset_same, true_and, and_true]) (fun i a b => by simp (disch := omega) only [jset_k, jset_j, jset_same, true_and, and_true]) (fun i a b => by simp (disch := omega) only [jset_k, jset_j, jset_same, true_and, and_true])
                                               · exact hI.2.2.1.2.2.2.2.2.2.2.1.fr (by omega) (fun k j a b => by show _ = M (1 + k) j; unfold cv; simp (disch := omega) only [jset_k, jset_j, jset_same, true_and, and_true]) (fun i a b => by simp (disch := omega) only [jset_k, jset_j, jset_same, true_and, and_true])
                                               · exact hI.2.2.1.2.2.2.2.2.2.2.2.1.fr (fun k j a b => by show _ = M (1 + k) j; unfold cv; simp (disch := omega) only [jset_k, jset_j, jset_same, true_and, and_true]) (fun i a b => by simp (disch := omega) only [jset_k, jset_j, jset_same, true_and, and_true])
                                               · exact hI.2.2.1.2.2.2.2.2.2.2.2.2.1.fr (fun k j a b => by show _ = M (1 + k) j; unfold cv; simp (disch := omega) only [jset_k, jset_j, jset_same, true_and, and_true]) (fun i a b => by simp (disch := omega) only [jset_k, jset_j, jset_same, true_and, and_true])
                                               · exact hI.2.2.1.2.2.2.2.2.2.2.2.2.2.1.fr (by omega) (fun k j a b => by show _ = M (1 + k) j; unfold cv; simp (disch := omega) only [jset_k, jset_j, jset_same, true_and, and_true]) (fun i a b => by simp (disch := omega) only [jset_k, jset_j, jset_same, true_and, and_true])
                                               · exact hI.2.2.1.2.2.2.2.2.2.2.2.2.2.2.fr hI.2.1.2.2.2.2.2.2.2.2.2.2 (fun k j a b => by show _ = M (1 + k) j; unfold cv; simp (disch := omega) only [jset_k, jset_j, jset_same, true_and, and_true]) (fun i a b => by simp (disch := omega) only [jset_k, jset_j, jset_same, true_and, and_true])))
                                  · first
                                     | (exfalso; omega)
                                     | (skip
                                        refine e_bipush 76 dX12_person_74 (by decide) rfl ?_
                                        refine e_iret dX12_person_76 ?_
                                        first
                                          | (exact ⟨by omega, hI⟩)
                                          | (exfalso; omega)))
                            · dsimp only [jpush]
                              first
                               | (exfalso; omega)
                               | (skip
                                  refine e_if_ne 54 57 dX12_person_51 (by decide) (by decide) rfl (fun h => absurd h (by decide)) (fun _ => ?_)
                                  refine e_bipush 56 dX12_person_54 (by decide) rfl ?_
                                  refine e_iret dX12_person_56 ?_
                                  first
                                    | (exact ⟨by omega, hI⟩)
                                    | (exfalso; omega)))
                      · dsimp only [jpush]
                        first
                         | (exfalso; omega)
                         | (skip
                            refine e_if_eq 41 54 dX12_person_38 (by decide) (by decide) rfl (fun _ => ?_) (fun h => absurd h (by decide))
                            refine e_bipush 56 dX12_person_54 (by decide) rfl ?_
                            refine e_iret dX12_person_56 ?_
                            first
                              | (exact ⟨by omega, hI⟩)
                              | (exfalso; omega)))
                · dsimp only [jpush]
                  first
                   | (exfalso; omega)
                   | (skip
                      refine e_if_eq 29 54 dX12_person_26 (by decide) (by decide) rfl (fun _ => ?_) (fun h => absurd h (by decide))
                      refine e_bipush 56 dX12_person_54 (by decide) rfl ?_
                      refine e_iret dX12_person_56 ?_
                      first
                        | (exact ⟨by omega, hI⟩)
                        | (exfalso; omega)))
          · dsimp only [jpush]
            first
             | (exfalso; omega)
             | (skip
                refine e_if_eq 17 54 dX12_person_14 (by decide) (by decide) rfl (fun _ => ?_) (fun h => absurd h (by decide))
                refine e_bipush 56 dX12_person_54 (by decide) rfl ?_
                refine e_iret dX12_person_56 ?_
                first
                  | (exact ⟨by omega, hI⟩)
                  | (exfalso; omega))
      · dsimp only [jpush]
        refine e_if_eq 33 45 dX11_person_30 (by decide) (by decide) rfl (fun _ => ?_) (fun h => absurd h (by decide))
        refine e_bipush 47 dX11_person_45 (by decide) rfl ?_
        refine e_iret dX11_person_47 ?_
        refine jCt_of mt_yX12_person (Nat.le_of_ble_eq_true rfl) (fun X2 => ?_)
        refine e_aload_n (i := 0) 1 dX12_person_0 rfl rfl rfl ?_
        refine e_iconst 2 dX12_person_1 rfl ?_
        refine e_put0 (j := 0) 5 fl_12_1 dX12_person_2 at_928 rfl rfl rfl (by decide) hI.1 rfl ?_
        refine e_iload_n (i := 1) 6 dX12_person_5 rfl rfl rfl ?_
        refine e_i2l 7 dX12_person_6 (by omega) rfl ?_
        refine e_lconst0 8 dX12_person_7 rfl ?_
        refine e_ldc2 (z := (999)) 11 (ix := 198) wd_1482 (by decide) dX12_person_8 rfl ?_
        refine e_callS 14 mt_yX12_within ms_yX12_within wd_1390 (by decide) dX12_person_11 rfl rfl (Nat.le_of_ble_eq_true rfl) (jroom (by decide)) rfl (m_within (by omega) (by omega) (by omega) (fun w11 => ?_) (fun w11 => ?_))
        · dsimp only [jpush]
          first
           | (exfalso; omega)
           | (skip
              refine e_if_eq 17 54 dX12_person_14 (by decide) (by decide) rfl (fun h => absurd h (by decide)) (fun _ => ?_)
              refine e_iload_n (i := 2) 18 dX12_person_17 rfl rfl rfl ?_
              refine e_i2l 19 dX12_person_18 (by omega) rfl ?_
              refine e_lconst0 20 dX12_person_19 rfl ?_
              refine e_ldc2 (z := (999)) 23 (ix := 198) wd_1482 (by decide) dX12_person_20 rfl ?_
              refine e_callS 26 mt_yX12_within ms_yX12_within wd_1390 (by decide) dX12_person_23 rfl rfl (Nat.le_of_ble_eq_true rfl) (jroom (by decide)) rfl (m_within (by omega) (by omega) (by omega) (fun w23 => ?_) (fun w23 => ?_))
              · dsimp only [jpush]
                first
                 | (exfalso; omega)
                 | (skip
                    refine e_if_eq 29 54 dX12_person_26 (by decide) (by decide) rfl (fun h => absurd h (by decide)) (fun _ => ?_)
                    refine e_iload_n (i := 3) 30 dX12_person_29 rfl rfl rfl ?_
                    refine e_i2l 31 dX12_person_30 (by omega) rfl ?_
                    refine e_lconst0 32 dX12_person_31 rfl ?_
                    refine e_ldc2 (z := (999)) 35 (ix := 198) wd_1482 (by decide) dX12_person_32 rfl ?_
                    refine e_callS 38 mt_yX12_within ms_yX12_within wd_1390 (by decide) dX12_person_35 rfl rfl (Nat.le_of_ble_eq_true rfl) (jroom (by decide)) rfl (m_within (by omega) (by omega) (by omega) (fun w35 => ?_) (fun w35 => ?_))
                    · dsimp only [jpush]
                      first
                       | (exfalso; omega)
                       | (skip
                          refine e_if_eq 41 54 dX12_person_38 (by decide) (by decide) rfl (fun h => absurd h (by decide)) (fun _ => ?_)
                          refine e_iload 43 dX12_person_41 rfl rfl ?_
                          refine e_i2l 44 dX12_person_43 (by omega) rfl ?_
                          refine e_lconst0 45 dX12_person_44 rfl ?_
                          refine e_ldc2 (z := (9999)) 48 (ix := 213) wd_1501 (by decide) dX12_person_45 rfl ?_
                          refine e_callS 51 mt_yX12_within ms_yX12_within wd_1390 (by decide) dX12_person_48 rfl rfl (Nat.le_of_ble_eq_true rfl) (jroom (by decide)) rfl (m_within (by omega) (by omega) (by omega) (fun w48 => ?_) (fun w48 => ?_))
                          · dsimp only [jpush]
                            first
                             | (exfalso; omega)
                             | (skip
                                refine e_if_ne 54 57 dX12_person_51 (by decide) (by decide) rfl (fun _ => ?_) (fun h => absurd h (by decide))
                                refine e_aload_n (i := 0) 58 dX12_person_57 rfl rfl rfl ?_
                                refine e_getr (j := 1) 61 fl_12_13 dX12_person_58 at_928 rfl rfl tp_928_1 rfl ?_
                                refine e_sipush 64 dX12_person_61 (by decide) rfl ?_
                                refine e_iald 65 dX12_person_64 ar_929 (by decide) (by decide) rfl (fun r64 => ?_)
                                refine e_istore (lsn := [(5, _), (0, _), (1, _), (2, _), (3, _), (4, _)]) 67 dX12_person_65 (by decide) rfl rfl ?_
                                refine e_iload 69 dX12_person_67 rfl rfl ?_
                                refine e_bipush 71 dX12_person_69 (by decide) rfl ?_
                                refine e_icmp_ne 74 77 dX12_person_71 (by omega) (by decide) (by decide) rfl (fun b71 => ?_) (fun b71 => ?_)
                                · first
                                   | (exfalso; omega)
                                   | (skip
                                      refine e_aload_n (i := 0) 78 dX12_person_77 rfl rfl rfl ?_
                                      refine e_getr (j := 1) 81 fl_12_13 dX12_person_78 at_928 rfl rfl tp_928_1 rfl ?_
                                      refine e_sipush 84 dX12_person_81 (by decide) rfl ?_
                                      refine e_iload 86 dX12_person_84 rfl rfl ?_
                                      refine e_iadd 87 dX12_person_86 rfl ?_
                                      refine e_iload_n (i := 1) 88 dX12_person_87 rfl rfl rfl ?_
                                      refine e_iast 89 dX12_person_88 ar_929 (by omega) (by omega) (by omega) rfl ?_
                                      refine e_aload_n (i := 0) 90 dX12_person_89 rfl rfl rfl ?_
                                      refine e_getr (j := 1) 93 fl_12_13 dX12_person_90 at_928 rfl rfl tp_928_1 rfl ?_
                                      refine e_sipush 96 dX12_person_93 (by decide) rfl ?_
                                      refine e_iload 98 dX12_person_96 rfl rfl ?_
                                      refine e_iadd 99 dX12_person_98 rfl ?_
                                      refine e_iload_n (i := 2) 100 dX12_person_99 rfl rfl rfl ?_
                                      refine e_iast 101 dX12_person_100 ar_929 (by omega) (by omega) (by omega) rfl ?_
                                      refine e_aload_n (i := 0) 102 dX12_person_101 rfl rfl rfl ?_
                                      refine e_getr (j := 1) 105 fl_12_13 dX12_person_102 at_928 rfl rfl tp_928_1 rfl ?_
                                      refine e_sipush 108 dX12_person_105 (by decide) rfl ?_
                                      refine e_iload 110 dX12_person_108 rfl rfl ?_
                                      refine e_iadd 111 dX12_person_110 rfl ?_
                                      refine e_iload_n (i := 3) 112 dX12_person_111 rfl rfl rfl ?_
                                      refine e_iast 113 dX12_person_112 ar_929 (by omega) (by omega) (by omega) rfl ?_
                                      refine e_aload_n (i := 0) 114 dX12_person_113 rfl rfl rfl ?_
                                      refine e_getr (j := 1) 117 fl_12_13 dX12_person_114 at_928 rfl rfl tp_928_1 rfl ?_
                                      refine e_sipush 120 dX12_person_117 (by decide) rfl ?_
                                      refine e_iload 122 dX12_person_120 rfl rfl ?_
                                      refine e_iadd 123 dX12_person_122 rfl ?_
                                      refine e_iconst 124 dX12_person_123 rfl ?_
                                      refine e_iload 126 dX12_person_124 rfl rfl ?_
                                      refine e_imul 127 dX12_person_126 rfl ?_
                                      refine e_iast 128 dX12_person_127 ar_929 (by omega) (by omega) (by omega) rfl ?_
                                      refine e_aload_n (i := 0) 129 dX12_person_128 rfl rfl rfl ?_
                                      refine e_getr (j := 1) 132 fl_12_13 dX12_person_129 at_928 rfl rfl tp_928_1 rfl ?_
                                      refine e_sipush 135 dX12_person_132 (by decide) rfl ?_
                                      refine e_iload 137 dX12_person_135 rfl rfl ?_
                                      refine e_iadd 138 dX12_person_137 rfl ?_
                                      refine e_iconst 139 dX12_person_138 rfl ?_
                                      refine e_iast 140 dX12_person_139 ar_929 (by omega) (by omega) (by decide) rfl ?_
                                      refine e_aload_n (i := 0) 141 dX12_person_140 rfl rfl rfl ?_
                                      refine e_getr (j := 1) 144 fl_12_13 dX12_person_141 at_928 rfl rfl tp_928_1 rfl ?_
                                      refine e_sipush 147 dX12_person_144 (by decide) rfl ?_
                                      refine e_dup2 148 dX12_person_147 rfl rfl rfl ?_
                                      refine e_iald 149 dX12_person_148 ar_929 (by decide) (by decide) rfl (fun r148 => ?_)
                                      simp (disch := omega) only [jset_k, jset_j, jset_same, true_and, and_true] at r148 ⊢
                                      refine e_iconst 150 dX12_person_149 rfl ?_
                                      refine e_iadd 151 dX12_person_150 rfl ?_
                                      refine e_iast 152 dX12_person_151 ar_929 (by decide) (by decide) (by omega) rfl ?_
                                      refine e_iload 154 dX12_person_152 rfl rfl ?_
                                      refine e_iret dX12_person_154 ?_
                                      first
                                        | (exact ⟨by omega, hI⟩)
                                        | (exfalso; omega)
                                        | (refine ⟨by omega, ?_⟩
                                           simp only [hn.2.1]
                                           refine hI.live ?_ ?_ ?_
                                           · repeat (first | exact Live.rf | refine Live.c ?_ (by omega) | refine Live.r ?_ (by omega) | refine Live.s ?_ (by omega))
                                           · refine ⟨?_, ?_, ?_, ?_, ?_, ?_, ?_, ?_, ?_, ?_, ?_⟩
                                             · have h := hI.2.1.1
                                               unfold RCnt at h ⊢
                                               simp (disch := omega) only [jset_k, jset_j, jset_same, true_and, and_true]
                                               omega
                                             · exact hI.2.1.2.1.fr (fun i a b => by simp (disch := omega) only [jset_k, jset_j, jset_same, true_and, and_true])
                                             · exact hI.2.1.2.2.1.fr (fun i a b => by simp (disch := omega) only [jset_k, jset_j, jset_same, true_and, and_true])
                                             · exact hI.2.1.2.2.2.1.fr (by omega) (fun i a b => by simp (disch := omega) only [jset_k, jset_j, jset_same, true_and, and_true])
                                             · intro k h0 h1
                                               simp (disch := omega) only [jset_k, jset_j, jset_same, true_and, and_true] at h1
                                               by_cases e : k < M 929 643
                                               · have h := hI.2.1.2.2.2.2.1 k h0 e
                                                 simp (disch := omega) only [jset_k, jset_j, jset_same, true_and, and_true]
                                                 exact h
                                               · have e2 : k = M 929 643 := by omega
                                                 subst e2
                                                 simp (disch := omega) only [jset_k, jset_j, jset_same, true_and, and_true]
                                                 omega
                                             · exact hI.2.1.2.2.2.2.2.1.fr (by omega) (fun i a b => by simp (disch := omega) only [jset_k, jset_j, jset_same, true_and, and_true]) (fun i a b => by simp (disch := omega) only [jset_k, jset_j, jset_same, true_and, and_true]) (by simp (disch := omega) only [jset_k, jset_j, jset_same, true_and, and_true]; omega)
                                             · exact hI.2.1.2.2.2.2.2.2.1.fr (by omega) (by simp (disch := omega) only [jset_k, jset_j, jset_same, true_and, and_true]) (fun i a b => by simp (disch := omega) only [jset_k, jset_j, jset_same, true_and, and_true])
                                             · exact hI.2.1.2.2.2.2.2.2.2.1.fr (by omega) (fun i a b => by simp (disch := omega) only [jset_k, jset_j, jset_same, true_and, and_true]) (fun i a b => by simp (disch := omega) only [jset_k, jset_j, jset_same, true_and, and_true]) (by simp (disch := omega) only [jset_k, jset_j, jset_same, true_and, and_true]; omega)
                                             · exact hI.2.1.2.2.2.2.2.2.2.2.1.fr (by omega) (fun i a b => by simp (disch := omega) only [jset_k, jset_j, jset_same, true_and, and_true])
                                             · exact hI.2.1.2.2.2.2.2.2.2.2.2.1.fr (fun i a b => by simp (disch := omega) only [jset_k, jset_j, jset_same, true_and, and_true])
                                             · exact hI.2.1.2.2.2.2.2.2.2.2.2.2.fr (fun i a b => by simp (disch := omega) only [jset_k, jset_j, jset_same, true_and, and_true])
                                           · refine ⟨?_, ?_, ?_, ?_, ?_, ?_, ?_, ?_, ?_, ?_, ?_, ?_⟩
                                             · have h := hC.cnt
                                               unfold CCnt cv
                                               simp (disch := omega) only [jset_k, jset_j, jset_same, true_and, and_true, Int.reduceAdd]
                                               first | omega | exact h
                                             · exact hI.2.2.1.2.1.fr hI.2.1.2.1 (by omega) (fun k j a b => by show _ = M (1 + k) j; unfold cv; simp (disch := omega) only [jset_k, jset_j, jset_same, true_and, and_true]) (fun i a b => by simp (disch := omega) only [jset_k, jset_j, jset_same, true_and, and_true])
                                             · exact hI.2.2.1.2.2.1.fr hI.2.1.2.2.1 (by omega) (fun k j a b => by show _ = M (1 + k) j; unfold cv; simp (disch := omega) only [jset_k, jset_j, jset_same, true_and, and_true]) (fun i a b => by simp (disch := omega) only [jset_k, jset_j, jset_same, true_and, and_true])
                                             · exact hI.2.2.1.2.2.2.1.fr (by omega) (fun k j a b => by show _ = M (1 + k) j; unfold cv; simp (disch := omega) only [jset_k, jset_j, jset_same, true_and, and_true]) (fun i a b => by simp (disch := omega) only [jset_k, jset_j, jset_same, true_and, and_true])
                                             · intro k h0 h1
                                               simp (disch := omega) only [jset_k, jset_j, jset_same, true_and, and_true] at h1
                                               simp only [cv1, Int.reduceAdd]
                                               by_cases e : k < M 929 643
                                               · have h := (hC.pers h0 e).1
                                                 simp (disch := omega) only [jset_k, jset_j, jset_same, true_and, and_true]
                                                 exact h
                                               · have e2 : k = M 929 643 := by omega
                                                 subst e2
                                                 simp (disch := omega) only [jset_k, jset_j, jset_same, true_and, and_true]
                                                 all_goals (first | omega | simp)
                                             · exact hI.2.2.1.2.2.2.2.2.1.fr (by omega) (fun k j a b => by show _ = M (1 + k) j; unfold cv; simp (disch := omega) only [jset_k, jset_j, jset_same, true_and, and_true]) (fun i a b => by simp (disch := omega) only [jset_k, jset_j, jset_same, true_and, and_true]) (fun i a b => by simp (disch := omega) only [jset_k, jset_j, jset_same, true_and, and_true])
                                             · exact hI.2.2.1.2.2.2.2.2.2.1.fr (by omega) (fun k j a b => by show _ = M (1 + k) j; unfold cv; simp (disch := omega) only [jset_k, jset_j, jset_same, true_and, and_true]) (fun i a b => by simp (disch := omega) only [jset_k, jset_j, jset_same, true_and, and_true]) (fun i a b => by simp (disch := omega) only [jset_k, jset_j, jset_same, true_and, and_true])
                                             · exact hI.2.2.1.2.2.2.2.2.2.2.1.fr (by omega) (fun k j a b => by show _ = M (1 + k) j; unfold cv; simp (disch := omega) only [jset_k, jset_j, jset_same, true_and, and_true]) (fun i a b => by simp (disch := omega) only [jset_k, jset_j, jset_same, true_and, and_true])
                                             · exact hI.2.2.1.2.2.2.2.2.2.2.2.1.fr (fun k j a b => by show _ = M (1 + k) j; unfold cv; simp (disch := omega) only [jset_k, jset_j, jset_same, true_and, and_true]) (fun i a b => by simp (disch := omega) only [jset_k, jset_j, jset_same, true_and, and_true])
                                             · exact hI.2.2.1.2.2.2.2.2.2.2.2.2.1.fr (fun k j a b => by show _ = M (1 + k) j; unfold cv; simp (disch := omega) only [jset_k, jset_j, jset_same, true_and, and_true]) (fun i a b => by simp (disch := omega) only [jset_k, jset_j, jset_same, true_and, and_true])
                                             · exact hI.2.2.1.2.2.2.2.2.2.2.2.2.2.1.fr (by omega) (fun k j a b => by show _ = M (1 + k) j; unfold cv; simp (disch := omega) only [jset_k, jset_j, jset_same, true_and, and_true]) (fun i a b => by simp (disch := omega) only [jset_k, jset_j, jset_same, true_and, and_true])
                                             · exact hI.2.2.1.2.2.2.2.2.2.2.2.2.2.2.fr hI.2.1.2.2.2.2.2.2.2.2.2.2 (fun k j a b => by show _ = M (1 + k) j; unfold cv; simp (disch := omega) only [jset_k, jset_j, jset_same, true_and, and_true]) (fun i a b => by simp (disch := omega) only [jset_k, jset_j, jset_same, true_and, and_true])))
                                · first
                                   | (exfalso; omega)
                                   | (skip
                                      refine e_bipush 76 dX12_person_74 (by decide) rfl ?_
                                      refine e_iret dX12_person_76 ?_
                                      first
                                        | (exact ⟨by omega, hI⟩)
                                        | (exfalso; omega)))
                          · dsimp only [jpush]
                            first
                             | (exfalso; omega)
                             | (skip
                                refine e_if_ne 54 57 dX12_person_51 (by decide) (by decide) rfl (fun h => absurd h (by decide)) (fun _ => ?_)
                                refine e_bipush 56 dX12_person_54 (by decide) rfl ?_
                                refine e_iret dX12_person_56 ?_
                                first
                                  | (exact ⟨by omega, hI⟩)
                                  | (exfalso; omega)))
                    · dsimp only [jpush]
                      first
                       | (exfalso; omega)
                       | (skip
                          refine e_if_eq 41 54 dX12_person_38 (by decide) (by decide) rfl (fun _ => ?_) (fun h => absurd h (by decide))
                          refine e_bipush 56 dX12_person_54 (by decide) rfl ?_
                          refine e_iret dX12_person_56 ?_
                          first
                            | (exact ⟨by omega, hI⟩)
                            | (exfalso; omega)))
              · dsimp only [jpush]
                first
                 | (exfalso; omega)
                 | (skip
                    refine e_if_eq 29 54 dX12_person_26 (by decide) (by decide) rfl (fun _ => ?_) (fun h => absurd h (by decide))
                    refine e_bipush 56 dX12_person_54 (by decide) rfl ?_
                    refine e_iret dX12_person_56 ?_
                    first
                      | (exact ⟨by omega, hI⟩)
                      | (exfalso; omega)))
        · dsimp only [jpush]
          first
           | (exfalso; omega)
           | (skip
              refine e_if_eq 17 54 dX12_person_14 (by decide) (by decide) rfl (fun _ => ?_) (fun h => absurd h (by decide))
              refine e_bipush 56 dX12_person_54 (by decide) rfl ?_
              refine e_iret dX12_person_56 ?_
              first
                | (exact ⟨by omega, hI⟩)
                | (exfalso; omega))
    · dsimp only [jpush]
      refine e_if_eq 22 45 dX11_person_19 (by decide) (by decide) rfl (fun _ => ?_) (fun h => absurd h (by decide))
      refine e_bipush 47 dX11_person_45 (by decide) rfl ?_
      refine e_iret dX11_person_47 ?_
      refine jCt_of mt_yX12_person (Nat.le_of_ble_eq_true rfl) (fun X2 => ?_)
      refine e_aload_n (i := 0) 1 dX12_person_0 rfl rfl rfl ?_
      refine e_iconst 2 dX12_person_1 rfl ?_
      refine e_put0 (j := 0) 5 fl_12_1 dX12_person_2 at_928 rfl rfl rfl (by decide) hI.1 rfl ?_
      refine e_iload_n (i := 1) 6 dX12_person_5 rfl rfl rfl ?_
      refine e_i2l 7 dX12_person_6 (by omega) rfl ?_
      refine e_lconst0 8 dX12_person_7 rfl ?_
      refine e_ldc2 (z := (999)) 11 (ix := 198) wd_1482 (by decide) dX12_person_8 rfl ?_
      refine e_callS 14 mt_yX12_within ms_yX12_within wd_1390 (by decide) dX12_person_11 rfl rfl (Nat.le_of_ble_eq_true rfl) (jroom (by decide)) rfl (m_within (by omega) (by omega) (by omega) (fun w11 => ?_) (fun w11 => ?_))
      · dsimp only [jpush]
        first
         | (exfalso; omega)
         | (skip
            refine e_if_eq 17 54 dX12_person_14 (by decide) (by decide) rfl (fun h => absurd h (by decide)) (fun _ => ?_)
            refine e_iload_n (i := 2) 18 dX12_person_17 rfl rfl rfl ?_
            refine e_i2l 19 dX12_person_18 (by omega) rfl ?_
            refine e_lconst0 20 dX12_person_19 rfl ?_
            refine e_ldc2 (z := (999)) 23 (ix := 198) wd_1482 (by decide) dX12_person_20 rfl ?_
            refine e_callS 26 mt_yX12_within ms_yX12_within wd_1390 (by decide) dX12_person_23 rfl rfl (Nat.le_of_ble_eq_true rfl) (jroom (by decide)) rfl (m_within (by omega) (by omega) (by omega) (fun w23 => ?_) (fun w23 => ?_))
            · dsimp only [jpush]
              first
               | (exfalso; omega)
               | (skip
                  refine e_if_eq 29 54 dX12_person_26 (by decide) (by decide) rfl (fun h => absurd h (by decide)) (fun _ => ?_)
                  refine e_iload_n (i := 3) 30 dX12_person_29 rfl rfl rfl ?_
                  refine e_i2l 31 dX12_person_30 (by omega) rfl ?_
                  refine e_lconst0 32 dX12_person_31 rfl ?_
                  refine e_ldc2 (z := (999)) 35 (ix := 198) wd_1482 (by decide) dX12_person_32 rfl ?_
                  refine e_callS 38 mt_yX12_within ms_yX12_within wd_1390 (by decide) dX12_person_35 rfl rfl (Nat.le_of_ble_eq_true rfl) (jroom (by decide)) rfl (m_within (by omega) (by omega) (by omega) (fun w35 => ?_) (fun w35 => ?_))
                  · dsimp only [jpush]
                    first
                     | (exfalso; omega)
                     | (skip
                        refine e_if_eq 41 54 dX12_person_38 (by decide) (by decide) rfl (fun h => absurd h (by decide)) (fun _ => ?_)
                        refine e_iload 43 dX12_person_41 rfl rfl ?_
                        refine e_i2l 44 dX12_person_43 (by omega) rfl ?_
                        refine e_lconst0 45 dX12_person_44 rfl ?_
                        refine e_ldc2 (z := (9999)) 48 (ix := 213) wd_1501 (by decide) dX12_person_45 rfl ?_
                        refine e_callS 51 mt_yX12_within ms_yX12_within wd_1390 (by decide) dX12_person_48 rfl rfl (Nat.le_of_ble_eq_true rfl) (jroom (by decide)) rfl (m_within (by omega) (by omega) (by omega) (fun w48 => ?_) (fun w48 => ?_))
                        · dsimp only [jpush]
                          first
                           | (exfalso; omega)
                           | (skip
                              refine e_if_ne 54 57 dX12_person_51 (by decide) (by decide) rfl (fun _ => ?_) (fun h => absurd h (by decide))
                              refine e_aload_n (i := 0) 58 dX12_person_57 rfl rfl rfl ?_
                              refine e_getr (j := 1) 61 fl_12_13 dX12_person_58 at_928 rfl rfl tp_928_1 rfl ?_
                              refine e_sipush 64 dX12_person_61 (by decide) rfl ?_
                              refine e_iald 65 dX12_person_64 ar_929 (by decide) (by decide) rfl (fun r64 => ?_)
                              refine e_istore (lsn := [(5, _), (0, _), (1, _), (2, _), (3, _), (4, _)]) 67 dX12_person_65 (by decide) rfl rfl ?_
                              refine e_iload 69 dX12_person_67 rfl rfl ?_
                              refine e_bipush 71 dX12_person_69 (by decide) rfl ?_
                              refine e_icmp_ne 74 77 dX12_person_71 (by omega) (by decide) (by decide) rfl (fun b71 => ?_) (fun b71 => ?_)
                              · first
                                 | (exfalso; omega)
                                 | (skip
                                    refine e_aload_n (i := 0) 78 dX12_person_77 rfl rfl rfl ?_
                                    refine e_getr (j := 1) 81 fl_12_13 dX12_person_78 at_928 rfl rfl tp_928_1 rfl ?_
                                    refine e_sipush 84 dX12_person_81 (by decide) rfl ?_
                                    refine e_iload 86 dX12_person_84 rfl rfl ?_
                                    refine e_iadd 87 dX12_person_86 rfl ?_
                                    refine e_iload_n (i := 1) 88 dX12_person_87 rfl rfl rfl ?_
                                    refine e_iast 89 dX12_person_88 ar_929 (by omega) (by omega) (by omega) rfl ?_
                                    refine e_aload_n (i := 0) 90 dX12_person_89 rfl rfl rfl ?_
                                    refine e_getr (j := 1) 93 fl_12_13 dX12_person_90 at_928 rfl rfl tp_928_1 rfl ?_
                                    refine e_sipush 96 dX12_person_93 (by decide) rfl ?_
                                    refine e_iload 98 dX12_person_96 rfl rfl ?_
                                    refine e_iadd 99 dX12_person_98 rfl ?_
                                    refine e_iload_n (i := 2) 100 dX12_person_99 rfl rfl rfl ?_
                                    refine e_iast 101 dX12_person_100 ar_929 (by omega) (by omega) (by omega) rfl ?_
                                    refine e_aload_n (i := 0) 102 dX12_person_101 rfl rfl rfl ?_
                                    refine e_getr (j := 1) 105 fl_12_13 dX12_person_102 at_928 rfl rfl tp_928_1 rfl ?_
                                    refine e_sipush 108 dX12_person_105 (by decide) rfl ?_
                                    refine e_iload 110 dX12_person_108 rfl rfl ?_
                                    refine e_iadd 111 dX12_person_110 rfl ?_
                                    refine e_iload_n (i := 3) 112 dX12_person_111 rfl rfl rfl ?_
                                    refine e_iast 113 dX12_person_112 ar_929 (by omega) (by omega) (by omega) rfl ?_
                                    refine e_aload_n (i := 0) 114 dX12_person_113 rfl rfl rfl ?_
                                    refine e_getr (j := 1) 117 fl_12_13 dX12_person_114 at_928 rfl rfl tp_928_1 rfl ?_
                                    refine e_sipush 120 dX12_person_117 (by decide) rfl ?_
                                    refine e_iload 122 dX12_person_120 rfl rfl ?_
                                    refine e_iadd 123 dX12_person_122 rfl ?_
                                    refine e_iconst 124 dX12_person_123 rfl ?_
                                    refine e_iload 126 dX12_person_124 rfl rfl ?_
                                    refine e_imul 127 dX12_person_126 rfl ?_
                                    refine e_iast 128 dX12_person_127 ar_929 (by omega) (by omega) (by omega) rfl ?_
                                    refine e_aload_n (i := 0) 129 dX12_person_128 rfl rfl rfl ?_
                                    refine e_getr (j := 1) 132 fl_12_13 dX12_person_129 at_928 rfl rfl tp_928_1 rfl ?_
                                    refine e_sipush 135 dX12_person_132 (by decide) rfl ?_
                                    refine e_iload 137 dX12_person_135 rfl rfl ?_
                                    refine e_iadd 138 dX12_person_137 rfl ?_
                                    refine e_iconst 139 dX12_person_138 rfl ?_
                                    refine e_iast 140 dX12_person_139 ar_929 (by omega) (by omega) (by decide) rfl ?_
                                    refine e_aload_n (i := 0) 141 dX12_person_140 rfl rfl rfl ?_
                                    refine e_getr (j := 1) 144 fl_12_13 dX12_person_141 at_928 rfl rfl tp_928_1 rfl ?_
                                    refine e_sipush 147 dX12_person_144 (by decide) rfl ?_
                                    refine e_dup2 148 dX12_person_147 rfl rfl rfl ?_
                                    refine e_iald 149 dX12_person_148 ar_929 (by decide) (by decide) rfl (fun r148 => ?_)
                                    simp (disch := omega) only [jset_k, jset_j, jset_same, true_and, and_true] at r148 ⊢
                                    refine e_iconst 150 dX12_person_149 rfl ?_
                                    refine e_iadd 151 dX12_person_150 rfl ?_
                                    refine e_iast 152 dX12_person_151 ar_929 (by decide) (by decide) (by omega) rfl ?_
                                    refine e_iload 154 dX12_person_152 rfl rfl ?_
                                    refine e_iret dX12_person_154 ?_
                                    first
                                      | (exact ⟨by omega, hI⟩)
                                      | (exfalso; omega)
                                      | (refine ⟨by omega, ?_⟩
                                         simp only [hn.2.1]
                                         refine hI.live ?_ ?_ ?_
                                         · repeat (first | exact Live.rf | refine Live.c ?_ (by omega) | refine Live.r ?_ (by omega) | refine Live.s ?_ (by omega))
                                         · refine ⟨?_, ?_, ?_, ?_, ?_, ?_, ?_, ?_, ?_, ?_, ?_⟩
                                           · have h := hI.2.1.1
                                             unfold RCnt at h ⊢
                                             simp (disch := omega) only [jset_k, jset_j, jset_same, true_and, and_true]
                                             omega
                                           · exact hI.2.1.2.1.fr (fun i a b => by simp (disch := omega) only [jset_k, jset_j, jset_same, true_and, and_true])
                                           · exact hI.2.1.2.2.1.fr (fun i a b => by simp (disch := omega) only [jset_k, jset_j, jset_same, true_and, and_true])
                                           · exact hI.2.1.2.2.2.1.fr (by omega) (fun i a b => by simp (disch := omega) only [jset_k, jset_j, jset_same, true_and, and_true])
                                           · intro k h0 h1
                                             simp (disch := omega) only [jset_k, jset_j, jset_same, true_and, and_true] at h1
                                             by_cases e : k < M 929 643
                                             · have h := hI.2.1.2.2.2.2.1 k h0 e
                                               simp (disch := omega) only [jset_k, jset_j, jset_same, true_and, and_true]
                                               exact h
                                             · have e2 : k = M 929 643 := by omega
                                               subst e2
                                               simp (disch := omega) only [jset_k, jset_j, jset_same, true_and, and_true]
                                               omega
                                           · exact hI.2.1.2.2.2.2.2.1.fr (by omega) (fun i a b => by simp (disch := omega) only [jset_k, jset_j, jset_same, true_and, and_true]) (fun i a b => by simp (disch := omega) only [jset_k, jset_j, jset_same, true_and, and_true]) (by simp (disch := omega) only [jset_k, jset_j, jset_same, true_and, and_true]; omega)
                                           · exact hI.2.1.2.2.2.2.2.2.1.fr (by omega) (by simp (disch := omega) only [jset_k, jset_j, jset_same, true_and, and_true]) (fun i a b => by simp (disch := omega) only [jset_k, jset_j, jset_same, true_and, and_true])
                                           · exact hI.2.1.2.2.2.2.2.2.2.1.fr (by omega) (fun i a b => by simp (disch := omega) only [jset_k, jset_j, jset_same, true_and, and_true]) (fun i a b => by simp (disch := omega) only [jset_k, jset_j, jset_same, true_and, and_true]) (by simp (disch := omega) only [jset_k, jset_j, jset_same, true_and, and_true]; omega)
                                           · exact hI.2.1.2.2.2.2.2.2.2.2.1.fr (by omega) (fun i a b => by simp (disch := omega) only [jset_k, jset_j, jset_same, true_and, and_true])
                                           · exact hI.2.1.2.2.2.2.2.2.2.2.2.1.fr (fun i a b => by simp (disch := omega) only [jset_k, jset_j, jset_same, true_and, and_true])
                                           · exact hI.2.1.2.2.2.2.2.2.2.2.2.2.fr (fun i a b => by simp (disch := omega) only [jset_k, jset_j, jset_same, true_and, and_true])
                                         · refine ⟨?_, ?_, ?_, ?_, ?_, ?_, ?_, ?_, ?_, ?_, ?_, ?_⟩
                                           · have h := hC.cnt
                                             unfold CCnt cv
                                             simp (disch := omega) only [jset_k, jset_j, jset_same, true_and, and_true, Int.reduceAdd]
                                             first | omega | exact h
                                           · exact hI.2.2.1.2.1.fr hI.2.1.2.1 (by omega) (fun k j a b => by show _ = M (1 + k) j; unfold cv; simp (disch := omega) only [jset_k, jset_j, jset_same, true_and, and_true]) (fun i a b => by simp (disch := omega) only [jset_k, jset_j, jset_same, true_and, and_true])
                                           · exact hI.2.2.1.2.2.1.fr hI.2.1.2.2.1 (by omega) (fun k j a b => by show _ = M (1 + k) j; unfold cv; simp (disch := omega) only [jset_k, jset_j, jset_same, true_and, and_true]) (fun i a b => by simp (disch := omega) only [jset_k, jset_j, jset_same, true_and, and_true])
                                           · exact hI.2.2.1.2.2.2.1.fr (by omega) (fun k j a b => by show _ = M (1 + k) j; unfold cv; simp (disch := omega) only [jset_k, jset_j, jset_same, true_and, and_true]) (fun i a b => by simp (disch := omega) only [jset_k, jset_j, jset_same, true_and, and_true])
                                           · intro k h0 h1
                                             simp (disch := omega) only [jset_k, jset_j, jset_same, true_and, and_true] at h1
                                             simp only [cv1, Int.reduceAdd]
                                             by_cases e : k < M 929 643
                                             · have h := (hC.pers h0 e).1
                                               simp (disch := omega) only [jset_k, jset_j, jset_same, true_and, and_true]
                                               exact h
                                             · have e2 : k = M 929 643 := by omega
                                               subst e2
                                               simp (disch := omega) only [jset_k, jset_j, jset_same, true_and, and_true]
                                               all_goals (first | omega | simp)
                                           · exact hI.2.2.1.2.2.2.2.2.1.fr (by omega) (fun k j a b => by show _ = M (1 + k) j; unfold cv; simp (disch := omega) only [jset_k, jset_j, jset_same, true_and, and_true]) (fun i a b => by simp (disch := omega) only [jset_k, jset_j, jset_same, true_and, and_true]) (fun i a b => by simp (disch := omega) only [jset_k, jset_j, jset_same, true_and, and_true])
                                           · exact hI.2.2.1.2.2.2.2.2.2.1.fr (by omega) (fun k j a b => by show _ = M (1 + k) j; unfold cv; simp (disch := omega) only [jset_k, jset_j, jset_same, true_and, and_true]) (fun i a b => by simp (disch := omega) only [jset_k, jset_j, jset_same, true_and, and_true]) (fun i a b => by simp (disch := omega) only [jset_k, jset_j, jset_same, true_and, and_true])
                                           · exact hI.2.2.1.2.2.2.2.2.2.2.1.fr (by omega) (fun k j a b => by show _ = M (1 + k) j; unfold cv; simp (disch := omega) only [jset_k, jset_j, jset_same, true_and, and_true]) (fun i a b => by simp (disch := omega) only [jset_k, jset_j, jset_same, true_and, and_true])
                                           · exact hI.2.2.1.2.2.2.2.2.2.2.2.1.fr (fun k j a b => by show _ = M (1 + k) j; unfold cv; simp (disch := omega) only [jset_k, jset_j, jset_same, true_and, and_true]) (fun i a b => by simp (disch := omega) only [jset_k, jset_j, jset_same, true_and, and_true])
                                           · exact hI.2.2.1.2.2.2.2.2.2.2.2.2.1.fr (fun k j a b => by show _ = M (1 + k) j; unfold cv; simp (disch := omega) only [jset_k, jset_j, jset_same, true_and, and_true]) (fun i a b => by simp (disch := omega) only [jset_k, jset_j, jset_same, true_and, and_true])
                                           · exact hI.2.2.1.2.2.2.2.2.2.2.2.2.2.1.fr (by omega) (fun k j a b => by show _ = M (1 + k) j; unfold cv; simp (disch := omega) only [jset_k, jset_j, jset_same, true_and, and_true]) (fun i a b => by simp (disch := omega) only [jset_k, jset_j, jset_same, true_and, and_true])
                                           · exact hI.2.2.1.2.2.2.2.2.2.2.2.2.2.2.fr hI.2.1.2.2.2.2.2.2.2.2.2.2 (fun k j a b => by show _ = M (1 + k) j; unfold cv; simp (disch := omega) only [jset_k, jset_j, jset_same, true_and, and_true]) (fun i a b => by simp (disch := omega) only [jset_k, jset_j, jset_same, true_and, and_true])))
                              · first
                                 | (exfalso; omega)
                                 | (skip
                                    refine e_bipush 76 dX12_person_74 (by decide) rfl ?_
                                    refine e_iret dX12_person_76 ?_
                                    first
                                      | (exact ⟨by omega, hI⟩)
                                      | (exfalso; omega)))
                        · dsimp only [jpush]
                          first
                           | (exfalso; omega)
                           | (skip
                              refine e_if_ne 54 57 dX12_person_51 (by decide) (by decide) rfl (fun h => absurd h (by decide)) (fun _ => ?_)
                              refine e_bipush 56 dX12_person_54 (by decide) rfl ?_
                              refine e_iret dX12_person_56 ?_
                              first
                                | (exact ⟨by omega, hI⟩)
                                | (exfalso; omega)))
                  · dsimp only [jpush]
                    first
                     | (exfalso; omega)
                     | (skip
                        refine e_if_eq 41 54 dX12_person_38 (by decide) (by decide) rfl (fun _ => ?_) (fun h => absurd h (by decide))
                        refine e_bipush 56 dX12_person_54 (by decide) rfl ?_
                        refine e_iret dX12_person_56 ?_
                        first
                          | (exact ⟨by omega, hI⟩)
                          | (exfalso; omega)))
            · dsimp only [jpush]
              first
               | (exfalso; omega)
               | (skip
                  refine e_if_eq 29 54 dX12_person_26 (by decide) (by decide) rfl (fun _ => ?_) (fun h => absurd h (by decide))
                  refine e_bipush 56 dX12_person_54 (by decide) rfl ?_
                  refine e_iret dX12_person_56 ?_
                  first
                    | (exact ⟨by omega, hI⟩)
                    | (exfalso; omega)))
      · dsimp only [jpush]
        first
         | (exfalso; omega)
         | (skip
            refine e_if_eq 17 54 dX12_person_14 (by decide) (by decide) rfl (fun _ => ?_) (fun h => absurd h (by decide))
            refine e_bipush 56 dX12_person_54 (by decide) rfl ?_
            refine e_iret dX12_person_56 ?_
            first
              | (exact ⟨by omega, hI⟩)
              | (exfalso; omega))
  · dsimp only [jpush]
    refine e_if_eq 11 45 dX11_person_8 (by decide) (by decide) rfl (fun _ => ?_) (fun h => absurd h (by decide))
    refine e_bipush 47 dX11_person_45 (by decide) rfl ?_
    refine e_iret dX11_person_47 ?_
    refine jCt_of mt_yX12_person (Nat.le_of_ble_eq_true rfl) (fun X2 => ?_)
    refine e_aload_n (i := 0) 1 dX12_person_0 rfl rfl rfl ?_
    refine e_iconst 2 dX12_person_1 rfl ?_
    refine e_put0 (j := 0) 5 fl_12_1 dX12_person_2 at_928 rfl rfl rfl (by decide) hI.1 rfl ?_
    refine e_iload_n (i := 1) 6 dX12_person_5 rfl rfl rfl ?_
    refine e_i2l 7 dX12_person_6 (by omega) rfl ?_
    refine e_lconst0 8 dX12_person_7 rfl ?_
    refine e_ldc2 (z := (999)) 11 (ix := 198) wd_1482 (by decide) dX12_person_8 rfl ?_
    refine e_callS 14 mt_yX12_within ms_yX12_within wd_1390 (by decide) dX12_person_11 rfl rfl (Nat.le_of_ble_eq_true rfl) (jroom (by decide)) rfl (m_within (by omega) (by omega) (by omega) (fun w11 => ?_) (fun w11 => ?_))
    · dsimp only [jpush]
      first
       | (exfalso; omega)
       | (skip
          refine e_if_eq 17 54 dX12_person_14 (by decide) (by decide) rfl (fun h => absurd h (by decide)) (fun _ => ?_)
          refine e_iload_n (i := 2) 18 dX12_person_17 rfl rfl rfl ?_
          refine e_i2l 19 dX12_person_18 (by omega) rfl ?_
          refine e_lconst0 20 dX12_person_19 rfl ?_
          refine e_ldc2 (z := (999)) 23 (ix := 198) wd_1482 (by decide) dX12_person_20 rfl ?_
          refine e_callS 26 mt_yX12_within ms_yX12_within wd_1390 (by decide) dX12_person_23 rfl rfl (Nat.le_of_ble_eq_true rfl) (jroom (by decide)) rfl (m_within (by omega) (by omega) (by omega) (fun w23 => ?_) (fun w23 => ?_))
          · dsimp only [jpush]
            first
             | (exfalso; omega)
             | (skip
                refine e_if_eq 29 54 dX12_person_26 (by decide) (by decide) rfl (fun h => absurd h (by decide)) (fun _ => ?_)
                refine e_iload_n (i := 3) 30 dX12_person_29 rfl rfl rfl ?_
                refine e_i2l 31 dX12_person_30 (by omega) rfl ?_
                refine e_lconst0 32 dX12_person_31 rfl ?_
                refine e_ldc2 (z := (999)) 35 (ix := 198) wd_1482 (by decide) dX12_person_32 rfl ?_
                refine e_callS 38 mt_yX12_within ms_yX12_within wd_1390 (by decide) dX12_person_35 rfl rfl (Nat.le_of_ble_eq_true rfl) (jroom (by decide)) rfl (m_within (by omega) (by omega) (by omega) (fun w35 => ?_) (fun w35 => ?_))
                · dsimp only [jpush]
                  first
                   | (exfalso; omega)
                   | (skip
                      refine e_if_eq 41 54 dX12_person_38 (by decide) (by decide) rfl (fun h => absurd h (by decide)) (fun _ => ?_)
                      refine e_iload 43 dX12_person_41 rfl rfl ?_
                      refine e_i2l 44 dX12_person_43 (by omega) rfl ?_
                      refine e_lconst0 45 dX12_person_44 rfl ?_
                      refine e_ldc2 (z := (9999)) 48 (ix := 213) wd_1501 (by decide) dX12_person_45 rfl ?_
                      refine e_callS 51 mt_yX12_within ms_yX12_within wd_1390 (by decide) dX12_person_48 rfl rfl (Nat.le_of_ble_eq_true rfl) (jroom (by decide)) rfl (m_within (by omega) (by omega) (by omega) (fun w48 => ?_) (fun w48 => ?_))
                      · dsimp only [jpush]
                        first
                         | (exfalso; omega)
                         | (skip
                            refine e_if_ne 54 57 dX12_person_51 (by decide) (by decide) rfl (fun _ => ?_) (fun h => absurd h (by decide))
                            refine e_aload_n (i := 0) 58 dX12_person_57 rfl rfl rfl ?_
                            refine e_getr (j := 1) 61 fl_12_13 dX12_person_58 at_928 rfl rfl tp_928_1 rfl ?_
                            refine e_sipush 64 dX12_person_61 (by decide) rfl ?_
                            refine e_iald 65 dX12_person_64 ar_929 (by decide) (by decide) rfl (fun r64 => ?_)
                            refine e_istore (lsn := [(5, _), (0, _), (1, _), (2, _), (3, _), (4, _)]) 67 dX12_person_65 (by decide) rfl rfl ?_
                            refine e_iload 69 dX12_person_67 rfl rfl ?_
                            refine e_bipush 71 dX12_person_69 (by decide) rfl ?_
                            refine e_icmp_ne 74 77 dX12_person_71 (by omega) (by decide) (by decide) rfl (fun b71 => ?_) (fun b71 => ?_)
                            · first
                               | (exfalso; omega)
                               | (skip
                                  refine e_aload_n (i := 0) 78 dX12_person_77 rfl rfl rfl ?_
                                  refine e_getr (j := 1) 81 fl_12_13 dX12_person_78 at_928 rfl rfl tp_928_1 rfl ?_
                                  refine e_sipush 84 dX12_person_81 (by decide) rfl ?_
                                  refine e_iload 86 dX12_person_84 rfl rfl ?_
                                  refine e_iadd 87 dX12_person_86 rfl ?_
                                  refine e_iload_n (i := 1) 88 dX12_person_87 rfl rfl rfl ?_
                                  refine e_iast 89 dX12_person_88 ar_929 (by omega) (by omega) (by omega) rfl ?_
                                  refine e_aload_n (i := 0) 90 dX12_person_89 rfl rfl rfl ?_
                                  refine e_getr (j := 1) 93 fl_12_13 dX12_person_90 at_928 rfl rfl tp_928_1 rfl ?_
                                  refine e_sipush 96 dX12_person_93 (by decide) rfl ?_
                                  refine e_iload 98 dX12_person_96 rfl rfl ?_
                                  refine e_iadd 99 dX12_person_98 rfl ?_
                                  refine e_iload_n (i := 2) 100 dX12_person_99 rfl rfl rfl ?_
                                  refine e_iast 101 dX12_person_100 ar_929 (by omega) (by omega) (by omega) rfl ?_
                                  refine e_aload_n (i := 0) 102 dX12_person_101 rfl rfl rfl ?_
                                  refine e_getr (j := 1) 105 fl_12_13 dX12_person_102 at_928 rfl rfl tp_928_1 rfl ?_
                                  refine e_sipush 108 dX12_person_105 (by decide) rfl ?_
                                  refine e_iload 110 dX12_person_108 rfl rfl ?_
                                  refine e_iadd 111 dX12_person_110 rfl ?_
                                  refine e_iload_n (i := 3) 112 dX12_person_111 rfl rfl rfl ?_
                                  refine e_iast 113 dX12_person_112 ar_929 (by omega) (by omega) (by omega) rfl ?_
                                  refine e_aload_n (i := 0) 114 dX12_person_113 rfl rfl rfl ?_
                                  refine e_getr (j := 1) 117 fl_12_13 dX12_person_114 at_928 rfl rfl tp_928_1 rfl ?_
                                  refine e_sipush 120 dX12_person_117 (by decide) rfl ?_
                                  refine e_iload 122 dX12_person_120 rfl rfl ?_
                                  refine e_iadd 123 dX12_person_122 rfl ?_
                                  refine e_iconst 124 dX12_person_123 rfl ?_
                                  refine e_iload 126 dX12_person_124 rfl rfl ?_
                                  refine e_imul 127 dX12_person_126 rfl ?_
                                  refine e_iast 128 dX12_person_127 ar_929 (by omega) (by omega) (by omega) rfl ?_
                                  refine e_aload_n (i := 0) 129 dX12_person_128 rfl rfl rfl ?_
                                  refine e_getr (j := 1) 132 fl_12_13 dX12_person_129 at_928 rfl rfl tp_928_1 rfl ?_
                                  refine e_sipush 135 dX12_person_132 (by decide) rfl ?_
                                  refine e_iload 137 dX12_person_135 rfl rfl ?_
                                  refine e_iadd 138 dX12_person_137 rfl ?_
                                  refine e_iconst 139 dX12_person_138 rfl ?_
                                  refine e_iast 140 dX12_person_139 ar_929 (by omega) (by omega) (by decide) rfl ?_
                                  refine e_aload_n (i := 0) 141 dX12_person_140 rfl rfl rfl ?_
                                  refine e_getr (j := 1) 144 fl_12_13 dX12_person_141 at_928 rfl rfl tp_928_1 rfl ?_
                                  refine e_sipush 147 dX12_person_144 (by decide) rfl ?_
                                  refine e_dup2 148 dX12_person_147 rfl rfl rfl ?_
                                  refine e_iald 149 dX12_person_148 ar_929 (by decide) (by decide) rfl (fun r148 => ?_)
                                  simp (disch := omega) only [jset_k, jset_j, jset_same, true_and, and_true] at r148 ⊢
                                  refine e_iconst 150 dX12_person_149 rfl ?_
                                  refine e_iadd 151 dX12_person_150 rfl ?_
                                  refine e_iast 152 dX12_person_151 ar_929 (by decide) (by decide) (by omega) rfl ?_
                                  refine e_iload 154 dX12_person_152 rfl rfl ?_
                                  refine e_iret dX12_person_154 ?_
                                  first
                                    | (exact ⟨by omega, hI⟩)
                                    | (exfalso; omega)
                                    | (refine ⟨by omega, ?_⟩
                                       simp only [hn.2.1]
                                       refine hI.live ?_ ?_ ?_
                                       · repeat (first | exact Live.rf | refine Live.c ?_ (by omega) | refine Live.r ?_ (by omega) | refine Live.s ?_ (by omega))
                                       · refine ⟨?_, ?_, ?_, ?_, ?_, ?_, ?_, ?_, ?_, ?_, ?_⟩
                                         · have h := hI.2.1.1
                                           unfold RCnt at h ⊢
                                           simp (disch := omega) only [jset_k, jset_j, jset_same, true_and, and_true]
                                           omega
                                         · exact hI.2.1.2.1.fr (fun i a b => by simp (disch := omega) only [jset_k, jset_j, jset_same, true_and, and_true])
                                         · exact hI.2.1.2.2.1.fr (fun i a b => by simp (disch := omega) only [jset_k, jset_j, jset_same, true_and, and_true])
                                         · exact hI.2.1.2.2.2.1.fr (by omega) (fun i a b => by simp (disch := omega) only [jset_k, jset_j, jset_same, true_and, and_true])
                                         · intro k h0 h1
                                           simp (disch := omega) only [jset_k, jset_j, jset_same, true_and, and_true] at h1
                                           by_cases e : k < M 929 643
                                           · have h := hI.2.1.2.2.2.2.1 k h0 e
                                             simp (disch := omega) only [jset_k, jset_j, jset_same, true_and, and_true]
                                             exact h
                                           · have e2 : k = M 929 643 := by omega
                                             subst e2
                                             simp (disch := omega) only [jset_k, jset_j, jset_same, true_and, and_true]
                                             omega
                                         · exact hI.2.1.2.2.2.2.2.1.fr (by omega) (fun i a b => by simp (disch := omega) only [jset_k, jset_j, jset_same, true_and, and_true]) (fun i a b => by simp (disch := omega) only [jset_k, jset_j, jset_same, true_and, and_true]) (by simp (disch := omega) only [jset_k, jset_j, jset_same, true_and, and_true]; omega)
                                         · exact hI.2.1.2.2.2.2.2.2.1.fr (by omega) (by simp (disch := omega) only [jset_k, jset_j, jset_same, true_and, and_true]) (fun i a b => by simp (disch := omega) only [jset_k, jset_j, jset_same, true_and, and_true])
                                         · exact hI.2.1.2.2.2.2.2.2.2.1.fr (by omega) (fun i a b => by simp (disch := omega) only [jset_k, jset_j, jset_same, true_and, and_true]) (fun i a b => by simp (disch := omega) only [jset_k, jset_j, jset_same, true_and, and_true]) (by simp (disch := omega) only [jset_k, jset_j, jset_same, true_and, and_true]; omega)
                                         · exact hI.2.1.2.2.2.2.2.2.2.2.1.fr (by omega) (fun i a b => by simp (disch := omega) only [jset_k, jset_j, jset_same, true_and, and_true])
                                         · exact hI.2.1.2.2.2.2.2.2.2.2.2.1.fr (fun i a b => by simp (disch := omega) only [jset_k, jset_j, jset_same, true_and, and_true])
                                         · exact hI.2.1.2.2.2.2.2.2.2.2.2.2.fr (fun i a b => by simp (disch := omega) only [jset_k, jset_j, jset_same, true_and, and_true])
                                       · refine ⟨?_, ?_, ?_, ?_, ?_, ?_, ?_, ?_, ?_, ?_, ?_, ?_⟩
                                         · have h := hC.cnt
                                           unfold CCnt cv
                                           simp (disch := omega) only [jset_k, jset_j, jset_same, true_and, and_true, Int.reduceAdd]
                                           first | omega | exact h
                                         · exact hI.2.2.1.2.1.fr hI.2.1.2.1 (by omega) (fun k j a b => by show _ = M (1 + k) j; unfold cv; simp (disch := omega) only [jset_k, jset_j, jset_same, true_and, and_true]) (fun i a b => by simp (disch := omega) only [jset_k, jset_j, jset_same, true_and, and_true])
                                         · exact hI.2.2.1.2.2.1.fr hI.2.1.2.2.1 (by omega) (fun k j a b => by show _ = M (1 + k) j; unfold cv; simp (disch := omega) only [jset_k, jset_j, jset_same, true_and, and_true]) (fun i a b => by simp (disch := omega) only [jset_k, jset_j, jset_same, true_and, and_true])
                                         · exact hI.2.2.1.2.2.2.1.fr (by omega) (fun k j a b => by show _ = M (1 + k) j; unfold cv; simp (disch := omega) only [jset_k, jset_j, jset_same, true_and, and_true]) (fun i a b => by simp (disch := omega) only [jset_k, jset_j, jset_same, true_and, and_true])
                                         · intro k h0 h1
                                           simp (disch := omega) only [jset_k, jset_j, jset_same, true_and, and_true] at h1
                                           simp only [cv1, Int.reduceAdd]
                                           by_cases e : k < M 929 643
                                           · have h := (hC.pers h0 e).1
                                             simp (disch := omega) only [jset_k, jset_j, jset_same, true_and, and_true]
                                             exact h
                                           · have e2 : k = M 929 643 := by omega
                                             subst e2
                                             simp (disch := omega) only [jset_k, jset_j, jset_same, true_and, and_true]
                                             all_goals (first | omega | simp)
                                         · exact hI.2.2.1.2.2.2.2.2.1.fr (by omega) (fun k j a b => by show _ = M (1 + k) j; unfold cv; simp (disch := omega) only [jset_k, jset_j, jset_same, true_and, and_true]) (fun i a b => by simp (disch := omega) only [jset_k, jset_j, jset_same, true_and, and_true]) (fun i a b => by simp (disch := omega) only [jset_k, jset_j, jset_same, true_and, and_true])
                                         · exact hI.2.2.1.2.2.2.2.2.2.1.fr (by omega) (fun k j a b => by show _ = M (1 + k) j; unfold cv; simp (disch := omega) only [jset_k, jset_j, jset_same, true_and, and_true]) (fun i a b => by simp (disch := omega) only [jset_k, jset_j, jset_same, true_and, and_true]) (fun i a b => by simp (disch := omega) only [jset_k, jset_j, jset_same, true_and, and_true])
                                         · exact hI.2.2.1.2.2.2.2.2.2.2.1.fr (by omega) (fun k j a b => by show _ = M (1 + k) j; unfold cv; simp (disch := omega) only [jset_k, jset_j, jset_same, true_and, and_true]) (fun i a b => by simp (disch := omega) only [jset_k, jset_j, jset_same, true_and, and_true])
                                         · exact hI.2.2.1.2.2.2.2.2.2.2.2.1.fr (fun k j a b => by show _ = M (1 + k) j; unfold cv; simp (disch := omega) only [jset_k, jset_j, jset_same, true_and, and_true]) (fun i a b => by simp (disch := omega) only [jset_k, jset_j, jset_same, true_and, and_true])
                                         · exact hI.2.2.1.2.2.2.2.2.2.2.2.2.1.fr (fun k j a b => by show _ = M (1 + k) j; unfold cv; simp (disch := omega) only [jset_k, jset_j, jset_same, true_and, and_true]) (fun i a b => by simp (disch := omega) only [jset_k, jset_j, jset_same, true_and, and_true])
                                         · exact hI.2.2.1.2.2.2.2.2.2.2.2.2.2.1.fr (by omega) (fun k j a b => by show _ = M (1 + k) j; unfold cv; simp (disch := omega) only [jset_k, jset_j, jset_same, true_and, and_true]) (fun i a b => by simp (disch := omega) only [jset_k, jset_j, jset_same, true_and, and_true])
                                         · exact hI.2.2.1.2.2.2.2.2.2.2.2.2.2.2.fr hI.2.1.2.2.2.2.2.2.2.2.2.2 (fun k j a b => by show _ = M (1 + k) j; unfold cv; simp (disch := omega) only [jset_k, jset_j, jset_same, true_and, and_true]) (fun i a b => by simp (disch := omega) only [jset_k, jset_j, jset_same, true_and, and_true])))
                            · first
                               | (exfalso; omega)
                               | (skip
                                  refine e_bipush 76 dX12_person_74 (by decide) rfl ?_
                                  refine e_iret dX12_person_76 ?_
                                  first
                                    | (exact ⟨by omega, hI⟩)
                                    | (exfalso; omega)))
                      · dsimp only [jpush]
                        first
                         | (exfalso; omega)
                         | (skip
                            refine e_if_ne 54 57 dX12_person_51 (by decide) (by decide) rfl (fun h => absurd h (by decide)) (fun _ => ?_)
                            refine e_bipush 56 dX12_person_54 (by decide) rfl ?_
                            refine e_iret dX12_person_56 ?_
                            first
                              | (exact ⟨by omega, hI⟩)
                              | (exfalso; omega)))
                · dsimp only [jpush]
                  first
                   | (exfalso; omega)
                   | (skip
                      refine e_if_eq 41 54 dX12_person_38 (by decide) (by decide) rfl (fun _ => ?_) (fun h => absurd h (by decide))
                      refine e_bipush 56 dX12_person_54 (by decide) rfl ?_
                      refine e_iret dX12_person_56 ?_
                      first
                        | (exact ⟨by omega, hI⟩)
                        | (exfalso; omega)))
          · dsimp only [jpush]
            first
             | (exfalso; omega)
             | (skip
                refine e_if_eq 29 54 dX12_person_26 (by decide) (by decide) rfl (fun _ => ?_) (fun h => absurd h (by decide))
                refine e_bipush 56 dX12_person_54 (by decide) rfl ?_
                refine e_iret dX12_person_56 ?_
                first
                  | (exact ⟨by omega, hI⟩)
                  | (exfalso; omega)))
    · dsimp only [jpush]
      first
       | (exfalso; omega)
       | (skip
          refine e_if_eq 17 54 dX12_person_14 (by decide) (by decide) rfl (fun _ => ?_) (fun h => absurd h (by decide))
          refine e_bipush 56 dX12_person_54 (by decide) rfl ?_
          refine e_iret dX12_person_56 ?_
          first
            | (exact ⟨by omega, hI⟩)
            | (exfalso; omega))

theorem p_rack {M : jM} (hI : Inv M) {room : Int} (hroom : -2147483648 ≤ room ∧ room ≤ 2147483647) {steps : Int} (hsteps : -2147483648 ≤ steps ∧ steps ≤ 2147483647) : jCt yX11_rack cX11_rack 3 (some .int) 2 [jR 0, jI room, jI steps] M (fun z M1 => jCt yX12_rack cX12_rack 4 (some .int) 2 [jR 928, jI room, jI steps] M1 (fun z2 M2 => z = z2 ∧ Inv M2)) := by
  have hC := hI.cr
  have hn := hC.cnt
  have hg := hC.rng
  refine jCt_of mt_yX11_rack (Nat.le_of_ble_eq_true rfl) (fun X => ?_)
  refine e_iload_n (i := 1) 1 dX11_rack_0 rfl rfl rfl ?_
  refine e_iconst 2 dX11_rack_1 rfl ?_
  refine e_bipush 4 dX11_rack_2 (by decide) rfl ?_
  refine e_callS 7 mt_yX11_within ms_yX11_within wd_531 (by decide) dX11_rack_4 rfl rfl (Nat.le_of_ble_eq_true rfl) (jroom (by decide)) rfl (c_within (by omega) (by omega) (by omega) (fun w4 => ?_) (fun w4 => ?_))
  · dsimp only [jpush]
    refine e_if_eq 10 20 dX11_rack_7 (by decide) (by decide) rfl (fun h => absurd h (by decide)) (fun _ => ?_)
    refine e_iload_n (i := 2) 11 dX11_rack_10 rfl rfl rfl ?_
    refine e_iconst 12 dX11_rack_11 rfl ?_
    refine e_bipush 14 dX11_rack_12 (by decide) rfl ?_
    refine e_callS 17 mt_yX11_within ms_yX11_within wd_531 (by decide) dX11_rack_14 rfl rfl (Nat.le_of_ble_eq_true rfl) (jroom (by decide)) rfl (c_within (by omega) (by omega) (by omega) (fun w14 => ?_) (fun w14 => ?_))
    · dsimp only [jpush]
      refine e_if_ne 20 23 dX11_rack_17 (by decide) (by decide) rfl (fun _ => ?_) (fun h => absurd h (by decide))
      refine e_aload_n (i := 0) 24 dX11_rack_23 rfl rfl rfl ?_
      refine e_getr (j := 0) 27 fl_11_10 dX11_rack_24 at_0 rfl rfl tp_0_0 rfl ?_
      refine e_geti (j := 14) 30 fl_11_315 dX11_rack_27 at_1 (by decide) rfl rfl (fun r27 => ?_)
      refine e_bipush 32 dX11_rack_30 (by decide) rfl ?_
      refine e_icmp_lt 35 38 dX11_rack_32 (by omega) (by decide) (by decide) rfl (fun b32 => ?_) (fun b32 => ?_)
      · skip
        refine e_aload_n (i := 0) 39 dX11_rack_38 rfl rfl rfl ?_
        refine e_getr (j := 0) 42 fl_11_10 dX11_rack_39 at_0 rfl rfl tp_0_0 rfl ?_
        refine e_getr (j := 13) 45 fl_11_318 dX11_rack_42 at_1 rfl rfl tp_1_13 rfl ?_
        refine e_aload_n (i := 0) 46 dX11_rack_45 rfl rfl rfl ?_
        refine e_getr (j := 0) 49 fl_11_10 dX11_rack_46 at_0 rfl rfl tp_0_0 rfl ?_
        refine e_geti (j := 14) 52 fl_11_315 dX11_rack_49 at_1 (by decide) rfl rfl (fun r49 => ?_)
        refine e_aaldi 53 dX11_rack_52 ar_20 (by omega) (by omega) (tp_rackrow (by omega) (by omega)) rfl ?_
        refine e_iconst 54 dX11_rack_53 rfl ?_
        refine e_iload_n (i := 1) 55 dX11_rack_54 rfl rfl rfl ?_
        refine e_iast 56 dX11_rack_55 (ar_rackrow (by omega) (by omega)) (by decide) (by decide) (by omega) rfl ?_
        refine e_aload_n (i := 0) 57 dX11_rack_56 rfl rfl rfl ?_
        refine e_getr (j := 0) 60 fl_11_10 dX11_rack_57 at_0 rfl rfl tp_0_0 rfl ?_
        refine e_getr (j := 13) 63 fl_11_318 dX11_rack_60 at_1 rfl rfl tp_1_13 rfl ?_
        refine e_aload_n (i := 0) 64 dX11_rack_63 rfl rfl rfl ?_
        refine e_getr (j := 0) 67 fl_11_10 dX11_rack_64 at_0 rfl rfl tp_0_0 rfl ?_
        refine e_geti (j := 14) 70 fl_11_315 dX11_rack_67 at_1 (by decide) rfl rfl (fun r67 => ?_)
        simp (disch := omega) only [jset_k, jset_j, jset_same, true_and, and_true] at r67 ⊢
        refine e_aaldi 71 dX11_rack_70 ar_20 (by omega) (by omega) (tp_rackrow (by omega) (by omega)) rfl ?_
        refine e_iconst 72 dX11_rack_71 rfl ?_
        refine e_iload_n (i := 2) 73 dX11_rack_72 rfl rfl rfl ?_
        refine e_iast 74 dX11_rack_73 (ar_rackrow (by omega) (by omega)) (by decide) (by decide) (by omega) rfl ?_
        refine e_aload_n (i := 0) 75 dX11_rack_74 rfl rfl rfl ?_
        refine e_getr (j := 0) 78 fl_11_10 dX11_rack_75 at_0 rfl rfl tp_0_0 rfl ?_
        refine e_dup 79 dX11_rack_78 rfl rfl ?_
        refine e_geti (j := 14) 82 fl_11_315 dX11_rack_79 at_1 (by decide) rfl rfl (fun r79 => ?_)
        simp (disch := omega) only [jset_k, jset_j, jset_same, true_and, and_true] at r79 ⊢
        refine e_iconst 83 dX11_rack_82 rfl ?_
        refine e_iadd 84 dX11_rack_83 rfl ?_
        refine e_puti (j := 14) 87 fl_11_315 dX11_rack_84 at_1 rfl rfl rfl (by omega) rfl ?_
        refine e_aload_n (i := 0) 88 dX11_rack_87 rfl rfl rfl ?_
        refine e_getr (j := 0) 91 fl_11_10 dX11_rack_88 at_0 rfl rfl tp_0_0 rfl ?_
        refine e_geti (j := 14) 94 fl_11_315 dX11_rack_91 at_1 (by decide) rfl rfl (fun r91 => ?_)
        simp (disch := omega) only [jset_k, jset_j, jset_same, true_and, and_true] at r91 ⊢
        refine e_iconst 95 dX11_rack_94 rfl ?_
        refine e_isub 96 dX11_rack_95 rfl ?_
        refine e_iret dX11_rack_96 ?_
        refine jCt_of mt_yX12_rack (Nat.le_of_ble_eq_true rfl) (fun X2 => ?_)
        refine e_aload_n (i := 0) 1 dX12_rack_0 rfl rfl rfl ?_
        refine e_iconst 2 dX12_rack_1 rfl ?_
        refine e_put0 (j := 0) 5 fl_12_1 dX12_rack_2 at_928 rfl rfl rfl (by decide) (by simp (disch := omega) only [jset_k, jset_j, jset_same, true_and, and_true]; exact hI.1) rfl ?_
        refine e_iload_n (i := 1) 6 dX12_rack_5 rfl rfl rfl ?_
        refine e_i2l 7 dX12_rack_6 (by omega) rfl ?_
        refine e_lconst1 8 dX12_rack_7 rfl ?_
        refine e_ldc2 (z := (99)) 11 (ix := 211) wd_1496 (by decide) dX12_rack_8 rfl ?_
        refine e_callS 14 mt_yX12_within ms_yX12_within wd_1390 (by decide) dX12_rack_11 rfl rfl (Nat.le_of_ble_eq_true rfl) (jroom (by decide)) rfl (m_within (by omega) (by omega) (by omega) (fun w11 => ?_) (fun w11 => ?_))
        · dsimp only [jpush]
          (try simp (disch := omega) only [jset_k, jset_j, jset_same, true_and, and_true] at w11)
          first
           | (exfalso; omega)
           | (skip
              refine e_if_eq 17 29 dX12_rack_14 (by decide) (by decide) rfl (fun h => absurd h (by decide)) (fun _ => ?_)
              refine e_iload_n (i := 2) 18 dX12_rack_17 rfl rfl rfl ?_
              refine e_i2l 19 dX12_rack_18 (by omega) rfl ?_
              refine e_lconst0 20 dX12_rack_19 rfl ?_
              refine e_ldc2 (z := (99)) 23 (ix := 211) wd_1496 (by decide) dX12_rack_20 rfl ?_
              refine e_callS 26 mt_yX12_within ms_yX12_within wd_1390 (by decide) dX12_rack_23 rfl rfl (Nat.le_of_ble_eq_true rfl) (jroom (by decide)) rfl (m_within (by omega) (by omega) (by omega) (fun w23 => ?_) (fun w23 => ?_))
              · dsimp only [jpush]
                (try simp (disch := omega) only [jset_k, jset_j, jset_same, true_and, and_true] at w23)
                first
                 | (exfalso; omega)
                 | (skip
                    refine e_if_ne 29 32 dX12_rack_26 (by decide) (by decide) rfl (fun _ => ?_) (fun h => absurd h (by decide))
                    refine e_aload_n (i := 0) 33 dX12_rack_32 rfl rfl rfl ?_
                    refine e_getr (j := 1) 36 fl_12_13 dX12_rack_33 at_928 rfl rfl tp_928_1 rfl ?_
                    refine e_sipush 39 dX12_rack_36 (by decide) rfl ?_
                    refine e_iald 40 dX12_rack_39 ar_929 (by decide) (by decide) rfl (fun r39 => ?_)
                    simp (disch := omega) only [jset_k, jset_j, jset_same, true_and, and_true] at r39 ⊢
                    refine e_istore_n (i := 3) (lsn := [(3, _), (0, _), (1, _), (2, _)]) 41 dX12_rack_40 rfl (by decide) rfl rfl ?_
                    refine e_iload_n (i := 3) 42 dX12_rack_41 rfl rfl rfl ?_
                    refine e_bipush 44 dX12_rack_42 (by decide) rfl ?_
                    refine e_icmp_ne 47 50 dX12_rack_44 (by omega) (by decide) (by decide) rfl (fun b44 => ?_) (fun b44 => ?_)
                    · first
                       | (exfalso; omega)
                       | (skip
                          refine e_aload_n (i := 0) 51 dX12_rack_50 rfl rfl rfl ?_
                          refine e_getr (j := 1) 54 fl_12_13 dX12_rack_51 at_928 rfl rfl tp_928_1 rfl ?_
                          refine e_sipush 57 dX12_rack_54 (by decide) rfl ?_
                          refine e_iload_n (i := 3) 58 dX12_rack_57 rfl rfl rfl ?_
                          refine e_iadd 59 dX12_rack_58 rfl ?_
                          refine e_iload_n (i := 1) 60 dX12_rack_59 rfl rfl rfl ?_
                          refine e_iast 61 dX12_rack_60 ar_929 (by omega) (by omega) (by omega) rfl ?_
                          refine e_aload_n (i := 0) 62 dX12_rack_61 rfl rfl rfl ?_
                          refine e_getr (j := 1) 65 fl_12_13 dX12_rack_62 at_928 rfl rfl tp_928_1 rfl ?_
                          refine e_sipush 68 dX12_rack_65 (by decide) rfl ?_
                          refine e_iload_n (i := 3) 69 dX12_rack_68 rfl rfl rfl ?_
                          refine e_iadd 70 dX12_rack_69 rfl ?_
                          refine e_iload_n (i := 2) 71 dX12_rack_70 rfl rfl rfl ?_
                          refine e_iast 72 dX12_rack_71 ar_929 (by omega) (by omega) (by omega) rfl ?_
                          refine e_aload_n (i := 0) 73 dX12_rack_72 rfl rfl rfl ?_
                          refine e_getr (j := 1) 76 fl_12_13 dX12_rack_73 at_928 rfl rfl tp_928_1 rfl ?_
                          refine e_sipush 79 dX12_rack_76 (by decide) rfl ?_
                          refine e_dup2 80 dX12_rack_79 rfl rfl rfl ?_
                          refine e_iald 81 dX12_rack_80 ar_929 (by decide) (by decide) rfl (fun r80 => ?_)
                          simp (disch := omega) only [jset_k, jset_j, jset_same, true_and, and_true] at r80 ⊢
                          refine e_iconst 82 dX12_rack_81 rfl ?_
                          refine e_iadd 83 dX12_rack_82 rfl ?_
                          refine e_iast 84 dX12_rack_83 ar_929 (by decide) (by decide) (by omega) rfl ?_
                          refine e_iload_n (i := 3) 85 dX12_rack_84 rfl rfl rfl ?_
                          refine e_iret dX12_rack_85 ?_
                          first
                            | (exact ⟨by omega, hI⟩)
                            | (exfalso; omega)
                            | (refine ⟨by omega, ?_⟩
                               simp only [hn.2.2.2.2.1]
                               refine hI.live ?_ ?_ ?_
                               · repeat (first | exact Live.rf | refine Live.c ?_ (by omega) | refine Live.r ?_ (by omega) | refine Live.s ?_ (by omega))
                               · refine ⟨?_, ?_, ?_, ?_, ?_, ?_, ?_, ?_, ?_, ?_, ?_⟩
                                 · have h := hI.2.1.1
                                   unfold RCnt at h ⊢
                                   simp (disch := omega) only [jset_k, jset_j, jset_same, true_and, and_true]
                                   omega
                                 · exact hI.2.1.2.1.fr (fun i a b => by simp (disch := omega) only [jset_k, jset_j, jset_same, true_and, and_true])
                                 · exact hI.2.1.2.2.1.fr (fun i a b => by simp (disch := omega) only [jset_k, jset_j, jset_same, true_and, and_true])
                                 · exact hI.2.1.2.2.2.1.fr (by omega) (fun i a b => by simp (disch := omega) only [jset_k, jset_j, jset_same, true_and, and_true])
                                 · exact hI.2.1.2.2.2.2.1.fr (by omega) (fun i a b => by simp (disch := omega) only [jset_k, jset_j, jset_same, true_and, and_true]) (fun i a b => by simp (disch := omega) only [jset_k, jset_j, jset_same, true_and, and_true])
                                 · exact hI.2.1.2.2.2.2.2.1.fr (by omega) (fun i a b => by simp (disch := omega) only [jset_k, jset_j, jset_same, true_and, and_true]) (fun i a b => by simp (disch := omega) only [jset_k, jset_j, jset_same, true_and, and_true]) (by simp (disch := omega) only [jset_k, jset_j, jset_same, true_and, and_true]; omega)
                                 · exact hI.2.1.2.2.2.2.2.2.1.fr (by omega) (by simp (disch := omega) only [jset_k, jset_j, jset_same, true_and, and_true]) (fun i a b => by simp (disch := omega) only [jset_k, jset_j, jset_same, true_and, and_true])
                                 · exact hI.2.1.2.2.2.2.2.2.2.1.fr (by omega) (fun i a b => by simp (disch := omega) only [jset_k, jset_j, jset_same, true_and, and_true]) (fun i a b => by simp (disch := omega) only [jset_k, jset_j, jset_same, true_and, and_true]) (by simp (disch := omega) only [jset_k, jset_j, jset_same, true_and, and_true]; omega)
                                 · intro k h0 h1
                                   simp (disch := omega) only [jset_k, jset_j, jset_same, true_and, and_true] at h1
                                   by_cases e : k < M 929 1761
                                   · have h := hI.2.1.2.2.2.2.2.2.2.2.1 k h0 e
                                     simp (disch := omega) only [jset_k, jset_j, jset_same, true_and, and_true]
                                     exact h
                                   · have e2 : k = M 929 1761 := by omega
                                     subst e2
                                     simp (disch := omega) only [jset_k, jset_j, jset_same, true_and, and_true]
                                     omega
                                 · exact hI.2.1.2.2.2.2.2.2.2.2.2.1.fr (fun i a b => by simp (disch := omega) only [jset_k, jset_j, jset_same, true_and, and_true])
                                 · exact hI.2.1.2.2.2.2.2.2.2.2.2.2.fr (fun i a b => by simp (disch := omega) only [jset_k, jset_j, jset_same, true_and, and_true])
                               · refine ⟨?_, ?_, ?_, ?_, ?_, ?_, ?_, ?_, ?_, ?_, ?_, ?_⟩
                                 · have h := hC.cnt
                                   unfold CCnt cv
                                   simp (disch := omega) only [jset_k, jset_j, jset_same, true_and, and_true, Int.reduceAdd]
                                   first | omega | exact h
                                 · exact hI.2.2.1.2.1.fr hI.2.1.2.1 (by omega) (fun k j a b => by show _ = M (1 + k) j; unfold cv; simp (disch := omega) only [jset_k, jset_j, jset_same, true_and, and_true]) (fun i a b => by simp (disch := omega) only [jset_k, jset_j, jset_same, true_and, and_true])
                                 · exact hI.2.2.1.2.2.1.fr hI.2.1.2.2.1 (by omega) (fun k j a b => by show _ = M (1 + k) j; unfold cv; simp (disch := omega) only [jset_k, jset_j, jset_same, true_and, and_true]) (fun i a b => by simp (disch := omega) only [jset_k, jset_j, jset_same, true_and, and_true])
                                 · exact hI.2.2.1.2.2.2.1.fr (by omega) (fun k j a b => by show _ = M (1 + k) j; unfold cv; simp (disch := omega) only [jset_k, jset_j, jset_same, true_and, and_true]) (fun i a b => by simp (disch := omega) only [jset_k, jset_j, jset_same, true_and, and_true])
                                 · exact hI.2.2.1.2.2.2.2.1.fr (by omega) (fun k j a b => by show _ = M (1 + k) j; unfold cv; simp (disch := omega) only [jset_k, jset_j, jset_same, true_and, and_true]) (fun i a b => by simp (disch := omega) only [jset_k, jset_j, jset_same, true_and, and_true]) (fun i a b => by simp (disch := omega) only [jset_k, jset_j, jset_same, true_and, and_true])
                                 · exact hI.2.2.1.2.2.2.2.2.1.fr (by omega) (fun k j a b => by show _ = M (1 + k) j; unfold cv; simp (disch := omega) only [jset_k, jset_j, jset_same, true_and, and_true]) (fun i a b => by simp (disch := omega) only [jset_k, jset_j, jset_same, true_and, and_true]) (fun i a b => by simp (disch := omega) only [jset_k, jset_j, jset_same, true_and, and_true])
                                 · exact hI.2.2.1.2.2.2.2.2.2.1.fr (by omega) (fun k j a b => by show _ = M (1 + k) j; unfold cv; simp (disch := omega) only [jset_k, jset_j, jset_same, true_and, and_true]) (fun i a b => by simp (disch := omega) only [jset_k, jset_j, jset_same, true_and, and_true]) (fun i a b => by simp (disch := omega) only [jset_k, jset_j, jset_same, true_and, and_true])
                                 · intro k h0 h1
                                   simp (disch := omega) only [jset_k, jset_j, jset_same, true_and, and_true] at h1
                                   simp only [cv1, Int.reduceAdd]
                                   by_cases e : k < M 929 1761
                                   · have h := (hC.rk h0 e).1
                                     simp (disch := omega) only [jset_k, jset_j, jset_same, true_and, and_true]
                                     exact h
                                   · have e2 : k = M 929 1761 := by omega
                                     subst e2
                                     simp (disch := omega) only [jset_k, jset_j, jset_same, true_and, and_true]
                                     all_goals (first | omega | simp)
                                 · exact hI.2.2.1.2.2.2.2.2.2.2.2.1.fr (fun k j a b => by show _ = M (1 + k) j; unfold cv; simp (disch := omega) only [jset_k, jset_j, jset_same, true_and, and_true]) (fun i a b => by simp (disch := omega) only [jset_k, jset_j, jset_same, true_and, and_true])
                                 · exact hI.2.2.1.2.2.2.2.2.2.2.2.2.1.fr (fun k j a b => by show _ = M (1 + k) j; unfold cv; simp (disch := omega) only [jset_k, jset_j, jset_same, true_and, and_true]) (fun i a b => by simp (disch := omega) only [jset_k, jset_j, jset_same, true_and, and_true])
                                 · exact hI.2.2.1.2.2.2.2.2.2.2.2.2.2.1.fr (by omega) (fun k j a b => by show _ = M (1 + k) j; unfold cv; simp (disch := omega) only [jset_k, jset_j, jset_same, true_and, and_true]) (fun i a b => by simp (disch := omega) only [jset_k, jset_j, jset_same, true_and, and_true])
                                 · exact hI.2.2.1.2.2.2.2.2.2.2.2.2.2.2.fr hI.2.1.2.2.2.2.2.2.2.2.2.2 (fun k j a b => by show _ = M (1 + k) j; unfold cv; simp (disch := omega) only [jset_k, jset_j, jset_same, true_and, and_true]) (fun i a b => by simp (disch := omega) only [jset_k, jset_j, jset_same, true_and, and_true])))
                    · first
                       | (exfalso; omega)
                       | (skip
                          refine e_bipush 49 dX12_rack_47 (by decide) rfl ?_
                          refine e_iret dX12_rack_49 ?_
                          first
                            | (exact ⟨by omega, hI⟩)
                            | (exfalso; omega)
                            | (refine ⟨by omega, ?_⟩
                               simp only [hn.2.2.2.2.1]
                               refine hI.live ?_ ?_ ?_
                               · repeat (first | exact Live.rf | refine Live.c ?_ (by omega) | refine Live.r ?_ (by omega) | refine Live.s ?_ (by omega))
                               · refine ⟨?_, ?_, ?_, ?_, ?_, ?_, ?_, ?_, ?_, ?_, ?_⟩
                                 · have h := hI.2.1.1
                                   unfold RCnt at h ⊢
                                   simp (disch := omega) only [jset_k, jset_j, jset_same, true_and, and_true]
                                   omega
                                 · exact hI.2.1.2.1.fr (fun i a b => by simp (disch := omega) only [jset_k, jset_j, jset_same, true_and, and_true])
                                 · exact hI.2.1.2.2.1.fr (fun i a b => by simp (disch := omega) only [jset_k, jset_j, jset_same, true_and, and_true])
                                 · exact hI.2.1.2.2.2.1.fr (by omega) (fun i a b => by simp (disch := omega) only [jset_k, jset_j, jset_same, true_and, and_true])
                                 · exact hI.2.1.2.2.2.2.1.fr (by omega) (fun i a b => by simp (disch := omega) only [jset_k, jset_j, jset_same, true_and, and_true]) (fun i a b => by simp (disch := omega) only [jset_k, jset_j, jset_same, true_and, and_true])
                                 · exact hI.2.1.2.2.2.2.2.1.fr (by omega) (fun i a b => by simp (disch := omega) only [jset_k, jset_j, jset_same, true_and, and_true]) (fun i a b => by simp (disch := omega) only [jset_k, jset_j, jset_same, true_and, and_true]) (by simp (disch := omega) only [jset_k, jset_j, jset_same, true_and, and_true]; omega)
                                 · exact hI.2.1.2.2.2.2.2.2.1.fr (by omega) (by simp (disch := omega) only [jset_k, jset_j, jset_same, true_and, and_true]) (fun i a b => by simp (disch := omega) only [jset_k, jset_j, jset_same, true_and, and_true])
                                 · exact hI.2.1.2.2.2.2.2.2.2.1.fr (by omega) (fun i a b => by simp (disch := omega) only [jset_k, jset_j, jset_same, true_and, and_true]) (fun i a b => by simp (disch := omega) only [jset_k, jset_j, jset_same, true_and, and_true]) (by simp (disch := omega) only [jset_k, jset_j, jset_same, true_and, and_true]; omega)
                                 · intro k h0 h1
                                   simp (disch := omega) only [jset_k, jset_j, jset_same, true_and, and_true] at h1
                                   by_cases e : k < M 929 1761
                                   · have h := hI.2.1.2.2.2.2.2.2.2.2.1 k h0 e
                                     simp (disch := omega) only [jset_k, jset_j, jset_same, true_and, and_true]
                                     exact h
                                   · have e2 : k = M 929 1761 := by omega
                                     subst e2
                                     simp (disch := omega) only [jset_k, jset_j, jset_same, true_and, and_true]
                                     omega
                                 · exact hI.2.1.2.2.2.2.2.2.2.2.2.1.fr (fun i a b => by simp (disch := omega) only [jset_k, jset_j, jset_same, true_and, and_true])
                                 · exact hI.2.1.2.2.2.2.2.2.2.2.2.2.fr (fun i a b => by simp (disch := omega) only [jset_k, jset_j, jset_same, true_and, and_true])
                               · refine ⟨?_, ?_, ?_, ?_, ?_, ?_, ?_, ?_, ?_, ?_, ?_, ?_⟩
                                 · have h := hC.cnt
                                   unfold CCnt cv
                                   simp (disch := omega) only [jset_k, jset_j, jset_same, true_and, and_true, Int.reduceAdd]
                                   first | omega | exact h
                                 · exact hI.2.2.1.2.1.fr hI.2.1.2.1 (by omega) (fun k j a b => by show _ = M (1 + k) j; unfold cv; simp (disch := omega) only [jset_k, jset_j, jset_same, true_and, and_true]) (fun i a b => by simp (disch := omega) only [jset_k, jset_j, jset_same, true_and, and_true])
                                 · exact hI.2.2.1.2.2.1.fr hI.2.1.2.2.1 (by omega) (fun k j a b => by show _ = M (1 + k) j; unfold cv; simp (disch := omega) only [jset_k, jset_j, jset_same, true_and, and_true]) (fun i a b => by simp (disch := omega) only [jset_k, jset_j, jset_same, true_and, and_true])
                                 · exact hI.2.2.1.2.2.2.1.fr (by omega) (fun k j a b => by show _ = M (1 + k) j; unfold cv; simp (disch := omega) only [jset_k, jset_j, jset_same, true_and, and_true]) (fun i a b => by simp (disch := omega) only [jset_k, jset_j, jset_same, true_and, and_true])
                                 · exact hI.2.2.1.2.2.2.2.1.fr (by omega) (fun k j a b => by show _ = M (1 + k) j; unfold cv; simp (disch := omega) only [jset_k, jset_j, jset_same, true_and, and_true]) (fun i a b => by simp (disch := omega) only [jset_k, jset_j, jset_same, true_and, and_true]) (fun i a b => by simp (disch := omega) only [jset_k, jset_j, jset_same, true_and, and_true])
                                 · exact hI.2.2.1.2.2.2.2.2.1.fr (by omega) (fun k j a b => by show _ = M (1 + k) j; unfold cv; simp (disch := omega) only [jset_k, jset_j, jset_same, true_and, and_true]) (fun i a b => by simp (disch := omega) only [jset_k, jset_j, jset_same, true_and, and_true]) (fun i a b => by simp (disch := omega) only [jset_k, jset_j, jset_same, true_and, and_true])
                                 · exact hI.2.2.1.2.2.2.2.2.2.1.fr (by omega) (fun k j a b => by show _ = M (1 + k) j; unfold cv; simp (disch := omega) only [jset_k, jset_j, jset_same, true_and, and_true]) (fun i a b => by simp (disch := omega) only [jset_k, jset_j, jset_same, true_and, and_true]) (fun i a b => by simp (disch := omega) only [jset_k, jset_j, jset_same, true_and, and_true])
                                 · intro k h0 h1
                                   simp (disch := omega) only [jset_k, jset_j, jset_same, true_and, and_true] at h1
                                   simp only [cv1, Int.reduceAdd]
                                   by_cases e : k < M 929 1761
                                   · have h := (hC.rk h0 e).1
                                     simp (disch := omega) only [jset_k, jset_j, jset_same, true_and, and_true]
                                     exact h
                                   · have e2 : k = M 929 1761 := by omega
                                     subst e2
                                     simp (disch := omega) only [jset_k, jset_j, jset_same, true_and, and_true]
                                     all_goals (first | omega | simp)
                                 · exact hI.2.2.1.2.2.2.2.2.2.2.2.1.fr (fun k j a b => by show _ = M (1 + k) j; unfold cv; simp (disch := omega) only [jset_k, jset_j, jset_same, true_and, and_true]) (fun i a b => by simp (disch := omega) only [jset_k, jset_j, jset_same, true_and, and_true])
                                 · exact hI.2.2.1.2.2.2.2.2.2.2.2.2.1.fr (fun k j a b => by show _ = M (1 + k) j; unfold cv; simp (disch := omega) only [jset_k, jset_j, jset_same, true_and, and_true]) (fun i a b => by simp (disch := omega) only [jset_k, jset_j, jset_same, true_and, and_true])
                                 · exact hI.2.2.1.2.2.2.2.2.2.2.2.2.2.1.fr (by omega) (fun k j a b => by show _ = M (1 + k) j; unfold cv; simp (disch := omega) only [jset_k, jset_j, jset_same, true_and, and_true]) (fun i a b => by simp (disch := omega) only [jset_k, jset_j, jset_same, true_and, and_true])
                                 · exact hI.2.2.1.2.2.2.2.2.2.2.2.2.2.2.fr hI.2.1.2.2.2.2.2.2.2.2.2.2 (fun k j a b => by show _ = M (1 + k) j; unfold cv; simp (disch := omega) only [jset_k, jset_j, jset_same, true_and, and_true]) (fun i a b => by simp (disch := omega) only [jset_k, jset_j, jset_same, true_and, and_true]))))
              · dsimp only [jpush]
                (try simp (disch := omega) only [jset_k, jset_j, jset_same, true_and, and_true] at w23)
                first
                 | (exfalso; omega)
                 | (skip
                    refine e_if_ne 29 32 dX12_rack_26 (by decide) (by decide) rfl (fun h => absurd h (by decide)) (fun _ => ?_)
                    refine e_bipush 31 dX12_rack_29 (by decide) rfl ?_
                    refine e_iret dX12_rack_31 ?_
                    first
                      | (exact ⟨by omega, hI⟩)
                      | (exfalso; omega)
                      | (refine ⟨by omega, ?_⟩
                         simp only [hn.2.2.2.2.1]
                         refine hI.live ?_ ?_ ?_
                         · repeat (first | exact Live.rf | refine Live.c ?_ (by omega) | refine Live.r ?_ (by omega) | refine Live.s ?_ (by omega))
                         · refine ⟨?_, ?_, ?_, ?_, ?_, ?_, ?_, ?_, ?_, ?_, ?_⟩
                           · have h := hI.2.1.1
                             unfold RCnt at h ⊢
                             simp (disch := omega) only [jset_k, jset_j, jset_same, true_and, and_true]
                             omega
                           · exact hI.2.1.2.1.fr (fun i a b => by simp (disch := omega) only [jset_k, jset_j, jset_same, true_and, and_true])
                           · exact hI.2.1.2.2.1.fr (fun i a b => by simp (disch := omega) only [jset_k, jset_j, jset_same, true_and, and_true])
                           · exact hI.2.1.2.2.2.1.fr (by omega) (fun i a b => by simp (disch := omega) only [jset_k, jset_j, jset_same, true_and, and_true])
                           · exact hI.2.1.2.2.2.2.1.fr (by omega) (fun i a b => by simp (disch := omega) only [jset_k, jset_j, jset_same, true_and, and_true]) (fun i a b => by simp (disch := omega) only [jset_k, jset_j, jset_same, true_and, and_true])
                           · exact hI.2.1.2.2.2.2.2.1.fr (by omega) (fun i a b => by simp (disch := omega) only [jset_k, jset_j, jset_same, true_and, and_true]) (fun i a b => by simp (disch := omega) only [jset_k, jset_j, jset_same, true_and, and_true]) (by simp (disch := omega) only [jset_k, jset_j, jset_same, true_and, and_true]; omega)
                           · exact hI.2.1.2.2.2.2.2.2.1.fr (by omega) (by simp (disch := omega) only [jset_k, jset_j, jset_same, true_and, and_true]) (fun i a b => by simp (disch := omega) only [jset_k, jset_j, jset_same, true_and, and_true])
                           · exact hI.2.1.2.2.2.2.2.2.2.1.fr (by omega) (fun i a b => by simp (disch := omega) only [jset_k, jset_j, jset_same, true_and, and_true]) (fun i a b => by simp (disch := omega) only [jset_k, jset_j, jset_same, true_and, and_true]) (by simp (disch := omega) only [jset_k, jset_j, jset_same, true_and, and_true]; omega)
                           · intro k h0 h1
                             simp (disch := omega) only [jset_k, jset_j, jset_same, true_and, and_true] at h1
                             by_cases e : k < M 929 1761
                             · have h := hI.2.1.2.2.2.2.2.2.2.2.1 k h0 e
                               simp (disch := omega) only [jset_k, jset_j, jset_same, true_and, and_true]
                               exact h
                             · have e2 : k = M 929 1761 := by omega
                               subst e2
                               simp (disch := omega) only [jset_k, jset_j, jset_same, true_and, and_true]
                               omega
                           · exact hI.2.1.2.2.2.2.2.2.2.2.2.1.fr (fun i a b => by simp (disch := omega) only [jset_k, jset_j, jset_same, true_and, and_true])
                           · exact hI.2.1.2.2.2.2.2.2.2.2.2.2.fr (fun i a b => by simp (disch := omega) only [jset_k, jset_j, jset_same, true_and, and_true])
                         · refine ⟨?_, ?_, ?_, ?_, ?_, ?_, ?_, ?_, ?_, ?_, ?_, ?_⟩
                           · have h := hC.cnt
                             unfold CCnt cv
                             simp (disch := omega) only [jset_k, jset_j, jset_same, true_and, and_true, Int.reduceAdd]
                             first | omega | exact h
                           · exact hI.2.2.1.2.1.fr hI.2.1.2.1 (by omega) (fun k j a b => by show _ = M (1 + k) j; unfold cv; simp (disch := omega) only [jset_k, jset_j, jset_same, true_and, and_true]) (fun i a b => by simp (disch := omega) only [jset_k, jset_j, jset_same, true_and, and_true])
                           · exact hI.2.2.1.2.2.1.fr hI.2.1.2.2.1 (by omega) (fun k j a b => by show _ = M (1 + k) j; unfold cv; simp (disch := omega) only [jset_k, jset_j, jset_same, true_and, and_true]) (fun i a b => by simp (disch := omega) only [jset_k, jset_j, jset_same, true_and, and_true])
                           · exact hI.2.2.1.2.2.2.1.fr (by omega) (fun k j a b => by show _ = M (1 + k) j; unfold cv; simp (disch := omega) only [jset_k, jset_j, jset_same, true_and, and_true]) (fun i a b => by simp (disch := omega) only [jset_k, jset_j, jset_same, true_and, and_true])
                           · exact hI.2.2.1.2.2.2.2.1.fr (by omega) (fun k j a b => by show _ = M (1 + k) j; unfold cv; simp (disch := omega) only [jset_k, jset_j, jset_same, true_and, and_true]) (fun i a b => by simp (disch := omega) only [jset_k, jset_j, jset_same, true_and, and_true]) (fun i a b => by simp (disch := omega) only [jset_k, jset_j, jset_same, true_and, and_true])
                           · exact hI.2.2.1.2.2.2.2.2.1.fr (by omega) (fun k j a b => by show _ = M (1 + k) j; unfold cv; simp (disch := omega) only [jset_k, jset_j, jset_same, true_and, and_true]) (fun i a b => by simp (disch := omega) only [jset_k, jset_j, jset_same, true_and, and_true]) (fun i a b => by simp (disch := omega) only [jset_k, jset_j, jset_same, true_and, and_true])
                           · exact hI.2.2.1.2.2.2.2.2.2.1.fr (by omega) (fun k j a b => by show _ = M (1 + k) j; unfold cv; simp (disch := omega) only [jset_k, jset_j, jset_same, true_and, and_true]) (fun i a b => by simp (disch := omega) only [jset_k, jset_j, jset_same, true_and, and_true]) (fun i a b => by simp (disch := omega) only [jset_k, jset_j, jset_same, true_and, and_true])
                           · intro k h0 h1
                             simp (disch := omega) only [jset_k, jset_j, jset_same, true_and, and_true] at h1
                             simp only [cv1, Int.reduceAdd]
                             by_cases e : k < M 929 1761
                             · have h := (hC.rk h0 e).1
                               simp (disch := omega) only [jset_k, jset_j, jset_same, true_and, and_true]
                               exact h
                             · have e2 : k = M 929 1761 := by omega
                               subst e2
                               simp (disch := omega) only [jset_k, jset_j, jset_same, true_and, and_true]
                               all_goals (first | omega | simp)
                           · exact hI.2.2.1.2.2.2.2.2.2.2.2.1.fr (fun k j a b => by show _ = M (1 + k) j; unfold cv; simp (disch := omega) only [jset_k, jset_j, jset_same, true_and, and_true]) (fun i a b => by simp (disch := omega) only [jset_k, jset_j, jset_same, true_and, and_true])
                           · exact hI.2.2.1.2.2.2.2.2.2.2.2.2.1.fr (fun k j a b => by show _ = M (1 + k) j; unfold cv; simp (disch := omega) only [jset_k, jset_j, jset_same, true_and, and_true]) (fun i a b => by simp (disch := omega) only [jset_k, jset_j, jset_same, true_and, and_true])
                           · exact hI.2.2.1.2.2.2.2.2.2.2.2.2.2.1.fr (by omega) (fun k j a b => by show _ = M (1 + k) j; unfold cv; simp (disch := omega) only [jset_k, jset_j, jset_same, true_and, and_true]) (fun i a b => by simp (disch := omega) only [jset_k, jset_j, jset_same, true_and, and_true])
                           · exact hI.2.2.1.2.2.2.2.2.2.2.2.2.2.2.fr hI.2.1.2.2.2.2.2.2.2.2.2.2 (fun k j a b => by show _ = M (1 + k) j; unfold cv; simp (disch := omega) only [jset_k, jset_j, jset_same, true_and, and_true]) (fun i a b => by simp (disch := omega) only [jset_k, jset_j, jset_same, true_and, and_true]))))
        · dsimp only [jpush]
          (try simp (disch := omega) only [jset_k, jset_j, jset_same, true_and, and_true] at w11)
          first
           | (exfalso; omega)
           | (skip
              refine e_if_eq 17 29 dX12_rack_14 (by decide) (by decide) rfl (fun _ => ?_) (fun h => absurd h (by decide))
              refine e_bipush 31 dX12_rack_29 (by decide) rfl ?_
              refine e_iret dX12_rack_31 ?_
              first
                | (exact ⟨by omega, hI⟩)
                | (exfalso; omega)
                | (refine ⟨by omega, ?_⟩
                   simp only [hn.2.2.2.2.1]
                   refine hI.live ?_ ?_ ?_
                   · repeat (first | exact Live.rf | refine Live.c ?_ (by omega) | refine Live.r ?_ (by omega) | refine Live.s ?_ (by omega))
                   · refine ⟨?_, ?_, ?_, ?_, ?_, ?_, ?_, ?_, ?_, ?_, ?_⟩
                     · have h := hI.2.1.1
                       unfold RCnt at h ⊢
                       simp (disch := omega) only [jset_k, jset_j, jset_same, true_and, and_true]
                       omega
                     · exact hI.2.1.2.1.fr (fun i a b => by simp (disch := omega) only [jset_k, jset_j, jset_same, true_and, and_true])
                     · exact hI.2.1.2.2.1.fr (fun i a b => by simp (disch := omega) only [jset_k, jset_j, jset_same, true_and, and_true])
                     · exact hI.2.1.2.2.2.1.fr (by omega) (fun i a b => by simp (disch := omega) only [jset_k, jset_j, jset_same, true_and, and_true])
                     · exact hI.2.1.2.2.2.2.1.fr (by omega) (fun i a b => by simp (disch := omega) only [jset_k, jset_j, jset_same, true_and, and_true]) (fun i a b => by simp (disch := omega) only [jset_k, jset_j, jset_same, true_and, and_true])
                     · exact hI.2.1.2.2.2.2.2.1.fr (by omega) (fun i a b => by simp (disch := omega) only [jset_k, jset_j, jset_same, true_and, and_true]) (fun i a b => by simp (disch := omega) only [jset_k, jset_j, jset_same, true_and, and_true]) (by simp (disch := omega) only [jset_k, jset_j, jset_same, true_and, and_true]; omega)
                     · exact hI.2.1.2.2.2.2.2.2.1.fr (by omega) (by simp (disch := omega) only [jset_k, jset_j, jset_same, true_and, and_true]) (fun i a b => by simp (disch := omega) only [jset_k, jset_j, jset_same, true_and, and_true])
                     · exact hI.2.1.2.2.2.2.2.2.2.1.fr (by omega) (fun i a b => by simp (disch := omega) only [jset_k, jset_j, jset_same, true_and, and_true]) (fun i a b => by simp (disch := omega) only [jset_k, jset_j, jset_same, true_and, and_true]) (by simp (disch := omega) only [jset_k, jset_j, jset_same, true_and, and_true]; omega)
                     · intro k h0 h1
                       simp (disch := omega) only [jset_k, jset_j, jset_same, true_and, and_true] at h1
                       by_cases e : k < M 929 1761
                       · have h := hI.2.1.2.2.2.2.2.2.2.2.1 k h0 e
                         simp (disch := omega) only [jset_k, jset_j, jset_same, true_and, and_true]
                         exact h
                       · have e2 : k = M 929 1761 := by omega
                         subst e2
                         simp (disch := omega) only [jset_k, jset_j, jset_same, true_and, and_true]
                         omega
                     · exact hI.2.1.2.2.2.2.2.2.2.2.2.1.fr (fun i a b => by simp (disch := omega) only [jset_k, jset_j, jset_same, true_and, and_true])
                     · exact hI.2.1.2.2.2.2.2.2.2.2.2.2.fr (fun i a b => by simp (disch := omega) only [jset_k, jset_j, jset_same, true_and, and_true])
                   · refine ⟨?_, ?_, ?_, ?_, ?_, ?_, ?_, ?_, ?_, ?_, ?_, ?_⟩
                     · have h := hC.cnt
                       unfold CCnt cv
                       simp (disch := omega) only [jset_k, jset_j, jset_same, true_and, and_true, Int.reduceAdd]
                       first | omega | exact h
                     · exact hI.2.2.1.2.1.fr hI.2.1.2.1 (by omega) (fun k j a b => by show _ = M (1 + k) j; unfold cv; simp (disch := omega) only [jset_k, jset_j, jset_same, true_and, and_true]) (fun i a b => by simp (disch := omega) only [jset_k, jset_j, jset_same, true_and, and_true])
                     · exact hI.2.2.1.2.2.1.fr hI.2.1.2.2.1 (by omega) (fun k j a b => by show _ = M (1 + k) j; unfold cv; simp (disch := omega) only [jset_k, jset_j, jset_same, true_and, and_true]) (fun i a b => by simp (disch := omega) only [jset_k, jset_j, jset_same, true_and, and_true])
                     · exact hI.2.2.1.2.2.2.1.fr (by omega) (fun k j a b => by show _ = M (1 + k) j; unfold cv; simp (disch := omega) only [jset_k, jset_j, jset_same, true_and, and_true]) (fun i a b => by simp (disch := omega) only [jset_k, jset_j, jset_same, true_and, and_true])
                     · exact hI.2.2.1.2.2.2.2.1.fr (by omega) (fun k j a b => by show _ = M (1 + k) j; unfold cv; simp (disch := omega) only [jset_k, jset_j, jset_same, true_and, and_true]) (fun i a b => by simp (disch := omega) only [jset_k, jset_j, jset_same, true_and, and_true]) (fun i a b => by simp (disch := omega) only [jset_k, jset_j, jset_same, true_and, and_true])
                     · exact hI.2.2.1.2.2.2.2.2.1.fr (by omega) (fun k j a b => by show _ = M (1 + k) j; unfold cv; simp (disch := omega) only [jset_k, jset_j, jset_same, true_and, and_true]) (fun i a b => by simp (disch := omega) only [jset_k, jset_j, jset_same, true_and, and_true]) (fun i a b => by simp (disch := omega) only [jset_k, jset_j, jset_same, true_and, and_true])
                     · exact hI.2.2.1.2.2.2.2.2.2.1.fr (by omega) (fun k j a b => by show _ = M (1 + k) j; unfold cv; simp (disch := omega) only [jset_k, jset_j, jset_same, true_and, and_true]) (fun i a b => by simp (disch := omega) only [jset_k, jset_j, jset_same, true_and, and_true]) (fun i a b => by simp (disch := omega) only [jset_k, jset_j, jset_same, true_and, and_true])
                     · intro k h0 h1
                       simp (disch := omega) only [jset_k, jset_j, jset_same, true_and, and_true] at h1
                       simp only [cv1, Int.reduceAdd]
                       by_cases e : k < M 929 1761
                       · have h := (hC.rk h0 e).1
                         simp (disch := omega) only [jset_k, jset_j, jset_same, true_and, and_true]
                         exact h
                       · have e2 : k = M 929 1761 := by omega
                         subst e2
                         simp (disch := omega) only [jset_k, jset_j, jset_same, true_and, and_true]
                         all_goals (first | omega | simp)
                     · exact hI.2.2.1.2.2.2.2.2.2.2.2.1.fr (fun k j a b => by show _ = M (1 + k) j; unfold cv; simp (disch := omega) only [jset_k, jset_j, jset_same, true_and, and_true]) (fun i a b => by simp (disch := omega) only [jset_k, jset_j, jset_same, true_and, and_true])
                     · exact hI.2.2.1.2.2.2.2.2.2.2.2.2.1.fr (fun k j a b => by show _ = M (1 + k) j; unfold cv; simp (disch := omega) only [jset_k, jset_j, jset_same, true_and, and_true]) (fun i a b => by simp (disch := omega) only [jset_k, jset_j, jset_same, true_and, and_true])
                     · exact hI.2.2.1.2.2.2.2.2.2.2.2.2.2.1.fr (by omega) (fun k j a b => by show _ = M (1 + k) j; unfold cv; simp (disch := omega) only [jset_k, jset_j, jset_same, true_and, and_true]) (fun i a b => by simp (disch := omega) only [jset_k, jset_j, jset_same, true_and, and_true])
                     · exact hI.2.2.1.2.2.2.2.2.2.2.2.2.2.2.fr hI.2.1.2.2.2.2.2.2.2.2.2.2 (fun k j a b => by show _ = M (1 + k) j; unfold cv; simp (disch := omega) only [jset_k, jset_j, jset_same, true_and, and_true]) (fun i a b => by simp (disch := omega) only [jset_k, jset_j, jset_same, true_and, and_true])))
      · skip
        refine e_bipush 37 dX11_rack_35 (by decide) rfl ?_
        refine e_iret dX11_rack_37 ?_
        refine jCt_of mt_yX12_rack (Nat.le_of_ble_eq_true rfl) (fun X2 => ?_)
        refine e_aload_n (i := 0) 1 dX12_rack_0 rfl rfl rfl ?_
        refine e_iconst 2 dX12_rack_1 rfl ?_
        refine e_put0 (j := 0) 5 fl_12_1 dX12_rack_2 at_928 rfl rfl rfl (by decide) hI.1 rfl ?_
        refine e_iload_n (i := 1) 6 dX12_rack_5 rfl rfl rfl ?_
        refine e_i2l 7 dX12_rack_6 (by omega) rfl ?_
        refine e_lconst1 8 dX12_rack_7 rfl ?_
        refine e_ldc2 (z := (99)) 11 (ix := 211) wd_1496 (by decide) dX12_rack_8 rfl ?_
        refine e_callS 14 mt_yX12_within ms_yX12_within wd_1390 (by decide) dX12_rack_11 rfl rfl (Nat.le_of_ble_eq_true rfl) (jroom (by decide)) rfl (m_within (by omega) (by omega) (by omega) (fun w11 => ?_) (fun w11 => ?_))
        · dsimp only [jpush]
          first
           | (exfalso; omega)
           | (skip
              refine e_if_eq 17 29 dX12_rack_14 (by decide) (by decide) rfl (fun h => absurd h (by decide)) (fun _ => ?_)
              refine e_iload_n (i := 2) 18 dX12_rack_17 rfl rfl rfl ?_
              refine e_i2l 19 dX12_rack_18 (by omega) rfl ?_
              refine e_lconst0 20 dX12_rack_19 rfl ?_
              refine e_ldc2 (z := (99)) 23 (ix := 211) wd_1496 (by decide) dX12_rack_20 rfl ?_
              refine e_callS 26 mt_yX12_within ms_yX12_within wd_1390 (by decide) dX12_rack_23 rfl rfl (Nat.le_of_ble_eq_true rfl) (jroom (by decide)) rfl (m_within (by omega) (by omega) (by omega) (fun w23 => ?_) (fun w23 => ?_))
              · dsimp only [jpush]
                first
                 | (exfalso; omega)
                 | (skip
                    refine e_if_ne 29 32 dX12_rack_26 (by decide) (by decide) rfl (fun _ => ?_) (fun h => absurd h (by decide))
                    refine e_aload_n (i := 0) 33 dX12_rack_32 rfl rfl rfl ?_
                    refine e_getr (j := 1) 36 fl_12_13 dX12_rack_33 at_928 rfl rfl tp_928_1 rfl ?_
                    refine e_sipush 39 dX12_rack_36 (by decide) rfl ?_
                    refine e_iald 40 dX12_rack_39 ar_929 (by decide) (by decide) rfl (fun r39 => ?_)
                    refine e_istore_n (i := 3) (lsn := [(3, _), (0, _), (1, _), (2, _)]) 41 dX12_rack_40 rfl (by decide) rfl rfl ?_
                    refine e_iload_n (i := 3) 42 dX12_rack_41 rfl rfl rfl ?_
                    refine e_bipush 44 dX12_rack_42 (by decide) rfl ?_
                    refine e_icmp_ne 47 50 dX12_rack_44 (by omega) (by decide) (by decide) rfl (fun b44 => ?_) (fun b44 => ?_)
                    · first
                       | (exfalso; omega)
                       | (skip
                          refine e_aload_n (i := 0) 51 dX12_rack_50 rfl rfl rfl ?_
                          refine e_getr (j := 1) 54 fl_12_13 dX12_rack_51 at_928 rfl rfl tp_928_1 rfl ?_
                          refine e_sipush 57 dX12_rack_54 (by decide) rfl ?_
                          refine e_iload_n (i := 3) 58 dX12_rack_57 rfl rfl rfl ?_
                          refine e_iadd 59 dX12_rack_58 rfl ?_
                          refine e_iload_n (i := 1) 60 dX12_rack_59 rfl rfl rfl ?_
                          refine e_iast 61 dX12_rack_60 ar_929 (by omega) (by omega) (by omega) rfl ?_
                          refine e_aload_n (i := 0) 62 dX12_rack_61 rfl rfl rfl ?_
                          refine e_getr (j := 1) 65 fl_12_13 dX12_rack_62 at_928 rfl rfl tp_928_1 rfl ?_
                          refine e_sipush 68 dX12_rack_65 (by decide) rfl ?_
                          refine e_iload_n (i := 3) 69 dX12_rack_68 rfl rfl rfl ?_
                          refine e_iadd 70 dX12_rack_69 rfl ?_
                          refine e_iload_n (i := 2) 71 dX12_rack_70 rfl rfl rfl ?_
                          refine e_iast 72 dX12_rack_71 ar_929 (by omega) (by omega) (by omega) rfl ?_
                          refine e_aload_n (i := 0) 73 dX12_rack_72 rfl rfl rfl ?_
                          refine e_getr (j := 1) 76 fl_12_13 dX12_rack_73 at_928 rfl rfl tp_928_1 rfl ?_
                          refine e_sipush 79 dX12_rack_76 (by decide) rfl ?_
                          refine e_dup2 80 dX12_rack_79 rfl rfl rfl ?_
                          refine e_iald 81 dX12_rack_80 ar_929 (by decide) (by decide) rfl (fun r80 => ?_)
                          simp (disch := omega) only [jset_k, jset_j, jset_same, true_and, and_true] at r80 ⊢
                          refine e_iconst 82 dX12_rack_81 rfl ?_
                          refine e_iadd 83 dX12_rack_82 rfl ?_
                          refine e_iast 84 dX12_rack_83 ar_929 (by decide) (by decide) (by omega) rfl ?_
                          refine e_iload_n (i := 3) 85 dX12_rack_84 rfl rfl rfl ?_
                          refine e_iret dX12_rack_85 ?_
                          first
                            | (exact ⟨by omega, hI⟩)
                            | (exfalso; omega)
                            | (refine ⟨by omega, ?_⟩
                               simp only [hn.2.2.2.2.1]
                               refine hI.live ?_ ?_ ?_
                               · repeat (first | exact Live.rf | refine Live.c ?_ (by omega) | refine Live.r ?_ (by omega) | refine Live.s ?_ (by omega))
                               · refine ⟨?_, ?_, ?_, ?_, ?_, ?_, ?_, ?_, ?_, ?_, ?_⟩
                                 · have h := hI.2.1.1
                                   unfold RCnt at h ⊢
                                   simp (disch := omega) only [jset_k, jset_j, jset_same, true_and, and_true]
                                   omega
                                 · exact hI.2.1.2.1.fr (fun i a b => by simp (disch := omega) only [jset_k, jset_j, jset_same, true_and, and_true])
                                 · exact hI.2.1.2.2.1.fr (fun i a b => by simp (disch := omega) only [jset_k, jset_j, jset_same, true_and, and_true])
                                 · exact hI.2.1.2.2.2.1.fr (by omega) (fun i a b => by simp (disch := omega) only [jset_k, jset_j, jset_same, true_and, and_true])
                                 · exact hI.2.1.2.2.2.2.1.fr (by omega) (fun i a b => by simp (disch := omega) only [jset_k, jset_j, jset_same, true_and, and_true]) (fun i a b => by simp (disch := omega) only [jset_k, jset_j, jset_same, true_and, and_true])
                                 · exact hI.2.1.2.2.2.2.2.1.fr (by omega) (fun i a b => by simp (disch := omega) only [jset_k, jset_j, jset_same, true_and, and_true]) (fun i a b => by simp (disch := omega) only [jset_k, jset_j, jset_same, true_and, and_true]) (by simp (disch := omega) only [jset_k, jset_j, jset_same, true_and, and_true]; omega)
                                 · exact hI.2.1.2.2.2.2.2.2.1.fr (by omega) (by simp (disch := omega) only [jset_k, jset_j, jset_same, true_and, and_true]) (fun i a b => by simp (disch := omega) only [jset_k, jset_j, jset_same, true_and, and_true])
                                 · exact hI.2.1.2.2.2.2.2.2.2.1.fr (by omega) (fun i a b => by simp (disch := omega) only [jset_k, jset_j, jset_same, true_and, and_true]) (fun i a b => by simp (disch := omega) only [jset_k, jset_j, jset_same, true_and, and_true]) (by simp (disch := omega) only [jset_k, jset_j, jset_same, true_and, and_true]; omega)
                                 · intro k h0 h1
                                   simp (disch := omega) only [jset_k, jset_j, jset_same, true_and, and_true] at h1
                                   by_cases e : k < M 929 1761
                                   · have h := hI.2.1.2.2.2.2.2.2.2.2.1 k h0 e
                                     simp (disch := omega) only [jset_k, jset_j, jset_same, true_and, and_true]
                                     exact h
                                   · have e2 : k = M 929 1761 := by omega
                                     subst e2
                                     simp (disch := omega) only [jset_k, jset_j, jset_same, true_and, and_true]
                                     omega
                                 · exact hI.2.1.2.2.2.2.2.2.2.2.2.1.fr (fun i a b => by simp (disch := omega) only [jset_k, jset_j, jset_same, true_and, and_true])
                                 · exact hI.2.1.2.2.2.2.2.2.2.2.2.2.fr (fun i a b => by simp (disch := omega) only [jset_k, jset_j, jset_same, true_and, and_true])
                               · refine ⟨?_, ?_, ?_, ?_, ?_, ?_, ?_, ?_, ?_, ?_, ?_, ?_⟩
                                 · have h := hC.cnt
                                   unfold CCnt cv
                                   simp (disch := omega) only [jset_k, jset_j, jset_same, true_and, and_true, Int.reduceAdd]
                                   first | omega | exact h
                                 · exact hI.2.2.1.2.1.fr hI.2.1.2.1 (by omega) (fun k j a b => by show _ = M (1 + k) j; unfold cv; simp (disch := omega) only [jset_k, jset_j, jset_same, true_and, and_true]) (fun i a b => by simp (disch := omega) only [jset_k, jset_j, jset_same, true_and, and_true])
                                 · exact hI.2.2.1.2.2.1.fr hI.2.1.2.2.1 (by omega) (fun k j a b => by show _ = M (1 + k) j; unfold cv; simp (disch := omega) only [jset_k, jset_j, jset_same, true_and, and_true]) (fun i a b => by simp (disch := omega) only [jset_k, jset_j, jset_same, true_and, and_true])
                                 · exact hI.2.2.1.2.2.2.1.fr (by omega) (fun k j a b => by show _ = M (1 + k) j; unfold cv; simp (disch := omega) only [jset_k, jset_j, jset_same, true_and, and_true]) (fun i a b => by simp (disch := omega) only [jset_k, jset_j, jset_same, true_and, and_true])
                                 · exact hI.2.2.1.2.2.2.2.1.fr (by omega) (fun k j a b => by show _ = M (1 + k) j; unfold cv; simp (disch := omega) only [jset_k, jset_j, jset_same, true_and, and_true]) (fun i a b => by simp (disch := omega) only [jset_k, jset_j, jset_same, true_and, and_true]) (fun i a b => by simp (disch := omega) only [jset_k, jset_j, jset_same, true_and, and_true])
                                 · exact hI.2.2.1.2.2.2.2.2.1.fr (by omega) (fun k j a b => by show _ = M (1 + k) j; unfold cv; simp (disch := omega) only [jset_k, jset_j, jset_same, true_and, and_true]) (fun i a b => by simp (disch := omega) only [jset_k, jset_j, jset_same, true_and, and_true]) (fun i a b => by simp (disch := omega) only [jset_k, jset_j, jset_same, true_and, and_true])
                                 · exact hI.2.2.1.2.2.2.2.2.2.1.fr (by omega) (fun k j a b => by show _ = M (1 + k) j; unfold cv; simp (disch := omega) only [jset_k, jset_j, jset_same, true_and, and_true]) (fun i a b => by simp (disch := omega) only [jset_k, jset_j, jset_same, true_and, and_true]) (fun i a b => by simp (disch := omega) only [jset_k, jset_j, jset_same, true_and, and_true])
                                 · intro k h0 h1
                                   simp (disch := omega) only [jset_k, jset_j, jset_same, true_and, and_true] at h1
                                   simp only [cv1, Int.reduceAdd]
                                   by_cases e : k < M 929 1761
                                   · have h := (hC.rk h0 e).1
                                     simp (disch := omega) only [jset_k, jset_j, jset_same, true_and, and_true]
                                     exact h
                                   · have e2 : k = M 929 1761 := by omega
                                     subst e2
                                     simp (disch := omega) only [jset_k, jset_j, jset_same, true_and, and_true]
                                     all_goals (first | omega | simp)
                                 · exact hI.2.2.1.2.2.2.2.2.2.2.2.1.fr (fun k j a b => by show _ = M (1 + k) j; unfold cv; simp (disch := omega) only [jset_k, jset_j, jset_same, true_and, and_true]) (fun i a b => by simp (disch := omega) only [jset_k, jset_j, jset_same, true_and, and_true])
                                 · exact hI.2.2.1.2.2.2.2.2.2.2.2.2.1.fr (fun k j a b => by show _ = M (1 + k) j; unfold cv; simp (disch := omega) only [jset_k, jset_j, jset_same, true_and, and_true]) (fun i a b => by simp (disch := omega) only [jset_k, jset_j, jset_same, true_and, and_true])
                                 · exact hI.2.2.1.2.2.2.2.2.2.2.2.2.2.1.fr (by omega) (fun k j a b => by show _ = M (1 + k) j; unfold cv; simp (disch := omega) only [jset_k, jset_j, jset_same, true_and, and_true]) (fun i a b => by simp (disch := omega) only [jset_k, jset_j, jset_same, true_and, and_true])
                                 · exact hI.2.2.1.2.2.2.2.2.2.2.2.2.2.2.fr hI.2.1.2.2.2.2.2.2.2.2.2.2 (fun k j a b => by show _ = M (1 + k) j; unfold cv; simp (disch := omega) only [jset_k, jset_j, jset_same, true_and, and_true]) (fun i a b => by simp (disch := omega) only [jset_k, jset_j, jset_same, true_and, and_true])))
                    · first
                       | (exfalso; omega)
                       | (skip
                          refine e_bipush 49 dX12_rack_47 (by decide) rfl ?_
                          refine e_iret dX12_rack_49 ?_
                          first
                            | (exact ⟨by omega, hI⟩)
                            | (exfalso; omega)))
              · dsimp only [jpush]
                first
                 | (exfalso; omega)
                 | (skip
                    refine e_if_ne 29 32 dX12_rack_26 (by decide) (by decide) rfl (fun h => absurd h (by decide)) (fun _ => ?_)
                    refine e_bipush 31 dX12_rack_29 (by decide) rfl ?_
                    refine e_iret dX12_rack_31 ?_
                    first
                      | (exact ⟨by omega, hI⟩)
                      | (exfalso; omega)))
        · dsimp only [jpush]
          first
           | (exfalso; omega)
           | (skip
              refine e_if_eq 17 29 dX12_rack_14 (by decide) (by decide) rfl (fun _ => ?_) (fun h => absurd h (by decide))
              refine e_bipush 31 dX12_rack_29 (by decide) rfl ?_
              refine e_iret dX12_rack_31 ?_
              first
                | (exact ⟨by omega, hI⟩)
                | (exfalso; omega))
    · dsimp only [jpush]
      refine e_if_ne 20 23 dX11_rack_17 (by decide) (by decide) rfl (fun h => absurd h (by decide)) (fun _ => ?_)
      refine e_bipush 22 dX11_rack_20 (by decide) rfl ?_
      refine e_iret dX11_rack_22 ?_
      refine jCt_of mt_yX12_rack (Nat.le_of_ble_eq_true rfl) (fun X2 => ?_)
      refine e_aload_n (i := 0) 1 dX12_rack_0 rfl rfl rfl ?_
      refine e_iconst 2 dX12_rack_1 rfl ?_
      refine e_put0 (j := 0) 5 fl_12_1 dX12_rack_2 at_928 rfl rfl rfl (by decide) hI.1 rfl ?_
      refine e_iload_n (i := 1) 6 dX12_rack_5 rfl rfl rfl ?_
      refine e_i2l 7 dX12_rack_6 (by omega) rfl ?_
      refine e_lconst1 8 dX12_rack_7 rfl ?_
      refine e_ldc2 (z := (99)) 11 (ix := 211) wd_1496 (by decide) dX12_rack_8 rfl ?_
      refine e_callS 14 mt_yX12_within ms_yX12_within wd_1390 (by decide) dX12_rack_11 rfl rfl (Nat.le_of_ble_eq_true rfl) (jroom (by decide)) rfl (m_within (by omega) (by omega) (by omega) (fun w11 => ?_) (fun w11 => ?_))
      · dsimp only [jpush]
        first
         | (exfalso; omega)
         | (skip
            refine e_if_eq 17 29 dX12_rack_14 (by decide) (by decide) rfl (fun h => absurd h (by decide)) (fun _ => ?_)
            refine e_iload_n (i := 2) 18 dX12_rack_17 rfl rfl rfl ?_
            refine e_i2l 19 dX12_rack_18 (by omega) rfl ?_
            refine e_lconst0 20 dX12_rack_19 rfl ?_
            refine e_ldc2 (z := (99)) 23 (ix := 211) wd_1496 (by decide) dX12_rack_20 rfl ?_
            refine e_callS 26 mt_yX12_within ms_yX12_within wd_1390 (by decide) dX12_rack_23 rfl rfl (Nat.le_of_ble_eq_true rfl) (jroom (by decide)) rfl (m_within (by omega) (by omega) (by omega) (fun w23 => ?_) (fun w23 => ?_))
            · dsimp only [jpush]
              first
               | (exfalso; omega)
               | (skip
                  refine e_if_ne 29 32 dX12_rack_26 (by decide) (by decide) rfl (fun _ => ?_) (fun h => absurd h (by decide))
                  refine e_aload_n (i := 0) 33 dX12_rack_32 rfl rfl rfl ?_
                  refine e_getr (j := 1) 36 fl_12_13 dX12_rack_33 at_928 rfl rfl tp_928_1 rfl ?_
                  refine e_sipush 39 dX12_rack_36 (by decide) rfl ?_
                  refine e_iald 40 dX12_rack_39 ar_929 (by decide) (by decide) rfl (fun r39 => ?_)
                  refine e_istore_n (i := 3) (lsn := [(3, _), (0, _), (1, _), (2, _)]) 41 dX12_rack_40 rfl (by decide) rfl rfl ?_
                  refine e_iload_n (i := 3) 42 dX12_rack_41 rfl rfl rfl ?_
                  refine e_bipush 44 dX12_rack_42 (by decide) rfl ?_
                  refine e_icmp_ne 47 50 dX12_rack_44 (by omega) (by decide) (by decide) rfl (fun b44 => ?_) (fun b44 => ?_)
                  · first
                     | (exfalso; omega)
                     | (skip
                        refine e_aload_n (i := 0) 51 dX12_rack_50 rfl rfl rfl ?_
                        refine e_getr (j := 1) 54 fl_12_13 dX12_rack_51 at_928 rfl rfl tp_928_1 rfl ?_
                        refine e_sipush 57 dX12_rack_54 (by decide) rfl ?_
                        refine e_iload_n (i := 3) 58 dX12_rack_57 rfl rfl rfl ?_
                        refine e_iadd 59 dX12_rack_58 rfl ?_
                        refine e_iload_n (i := 1) 60 dX12_rack_59 rfl rfl rfl ?_
                        refine e_iast 61 dX12_rack_60 ar_929 (by omega) (by omega) (by omega) rfl ?_
                        refine e_aload_n (i := 0) 62 dX12_rack_61 rfl rfl rfl ?_
                        refine e_getr (j := 1) 65 fl_12_13 dX12_rack_62 at_928 rfl rfl tp_928_1 rfl ?_
                        refine e_sipush 68 dX12_rack_65 (by decide) rfl ?_
                        refine e_iload_n (i := 3) 69 dX12_rack_68 rfl rfl rfl ?_
                        refine e_iadd 70 dX12_rack_69 rfl ?_
                        refine e_iload_n (i := 2) 71 dX12_rack_70 rfl rfl rfl ?_
                        refine e_iast 72 dX12_rack_71 ar_929 (by omega) (by omega) (by omega) rfl ?_
                        refine e_aload_n (i := 0) 73 dX12_rack_72 rfl rfl rfl ?_
                        refine e_getr (j := 1) 76 fl_12_13 dX12_rack_73 at_928 rfl rfl tp_928_1 rfl ?_
                        refine e_sipush 79 dX12_rack_76 (by decide) rfl ?_
                        refine e_dup2 80 dX12_rack_79 rfl rfl rfl ?_
                        refine e_iald 81 dX12_rack_80 ar_929 (by decide) (by decide) rfl (fun r80 => ?_)
                        simp (disch := omega) only [jset_k, jset_j, jset_same, true_and, and_true] at r80 ⊢
                        refine e_iconst 82 dX12_rack_81 rfl ?_
                        refine e_iadd 83 dX12_rack_82 rfl ?_
                        refine e_iast 84 dX12_rack_83 ar_929 (by decide) (by decide) (by omega) rfl ?_
                        refine e_iload_n (i := 3) 85 dX12_rack_84 rfl rfl rfl ?_
                        refine e_iret dX12_rack_85 ?_
                        first
                          | (exact ⟨by omega, hI⟩)
                          | (exfalso; omega)
                          | (refine ⟨by omega, ?_⟩
                             simp only [hn.2.2.2.2.1]
                             refine hI.live ?_ ?_ ?_
                             · repeat (first | exact Live.rf | refine Live.c ?_ (by omega) | refine Live.r ?_ (by omega) | refine Live.s ?_ (by omega))
                             · refine ⟨?_, ?_, ?_, ?_, ?_, ?_, ?_, ?_, ?_, ?_, ?_⟩
                               · have h := hI.2.1.1
                                 unfold RCnt at h ⊢
                                 simp (disch := omega) only [jset_k, jset_j, jset_same, true_and, and_true]
                                 omega
                               · exact hI.2.1.2.1.fr (fun i a b => by simp (disch := omega) only [jset_k, jset_j, jset_same, true_and, and_true])
                               · exact hI.2.1.2.2.1.fr (fun i a b => by simp (disch := omega) only [jset_k, jset_j, jset_same, true_and, and_true])
                               · exact hI.2.1.2.2.2.1.fr (by omega) (fun i a b => by simp (disch := omega) only [jset_k, jset_j, jset_same, true_and, and_true])
                               · exact hI.2.1.2.2.2.2.1.fr (by omega) (fun i a b => by simp (disch := omega) only [jset_k, jset_j, jset_same, true_and, and_true]) (fun i a b => by simp (disch := omega) only [jset_k, jset_j, jset_same, true_and, and_true])
                               · exact hI.2.1.2.2.2.2.2.1.fr (by omega) (fun i a b => by simp (disch := omega) only [jset_k, jset_j, jset_same, true_and, and_true]) (fun i a b => by simp (disch := omega) only [jset_k, jset_j, jset_same, true_and, and_true]) (by simp (disch := omega) only [jset_k, jset_j, jset_same, true_and, and_true]; omega)
                               · exact hI.2.1.2.2.2.2.2.2.1.fr (by omega) (by simp (disch := omega) only [jset_k, jset_j, jset_same, true_and, and_true]) (fun i a b => by simp (disch := omega) only [jset_k, jset_j, jset_same, true_and, and_true])
                               · exact hI.2.1.2.2.2.2.2.2.2.1.fr (by omega) (fun i a b => by simp (disch := omega) only [jset_k, jset_j, jset_same, true_and, and_true]) (fun i a b => by simp (disch := omega) only [jset_k, jset_j, jset_same, true_and, and_true]) (by simp (disch := omega) only [jset_k, jset_j, jset_same, true_and, and_true]; omega)
                               · intro k h0 h1
                                 simp (disch := omega) only [jset_k, jset_j, jset_same, true_and, and_true] at h1
                                 by_cases e : k < M 929 1761
                                 · have h := hI.2.1.2.2.2.2.2.2.2.2.1 k h0 e
                                   simp (disch := omega) only [jset_k, jset_j, jset_same, true_and, and_true]
                                   exact h
                                 · have e2 : k = M 929 1761 := by omega
                                   subst e2
                                   simp (disch := omega) only [jset_k, jset_j, jset_same, true_and, and_true]
                                   omega
                               · exact hI.2.1.2.2.2.2.2.2.2.2.2.1.fr (fun i a b => by simp (disch := omega) only [jset_k, jset_j, jset_same, true_and, and_true])
                               · exact hI.2.1.2.2.2.2.2.2.2.2.2.2.fr (fun i a b => by simp (disch := omega) only [jset_k, jset_j, jset_same, true_and, and_true])
                             · refine ⟨?_, ?_, ?_, ?_, ?_, ?_, ?_, ?_, ?_, ?_, ?_, ?_⟩
                               · have h := hC.cnt
                                 unfold CCnt cv
                                 simp (disch := omega) only [jset_k, jset_j, jset_same, true_and, and_true, Int.reduceAdd]
                                 first | omega | exact h
                               · exact hI.2.2.1.2.1.fr hI.2.1.2.1 (by omega) (fun k j a b => by show _ = M (1 + k) j; unfold cv; simp (disch := omega) only [jset_k, jset_j, jset_same, true_and, and_true]) (fun i a b => by simp (disch := omega) only [jset_k, jset_j, jset_same, true_and, and_true])
                               · exact hI.2.2.1.2.2.1.fr hI.2.1.2.2.1 (by omega) (fun k j a b => by show _ = M (1 + k) j; unfold cv; simp (disch := omega) only [jset_k, jset_j, jset_same, true_and, and_true]) (fun i a b => by simp (disch := omega) only [jset_k, jset_j, jset_same, true_and, and_true])
                               · exact hI.2.2.1.2.2.2.1.fr (by omega) (fun k j a b => by show _ = M (1 + k) j; unfold cv; simp (disch := omega) only [jset_k, jset_j, jset_same, true_and, and_true]) (fun i a b => by simp (disch := omega) only [jset_k, jset_j, jset_same, true_and, and_true])
                               · exact hI.2.2.1.2.2.2.2.1.fr (by omega) (fun k j a b => by show _ = M (1 + k) j; unfold cv; simp (disch := omega) only [jset_k, jset_j, jset_same, true_and, and_true]) (fun i a b => by simp (disch := omega) only [jset_k, jset_j, jset_same, true_and, and_true]) (fun i a b => by simp (disch := omega) only [jset_k, jset_j, jset_same, true_and, and_true])
                               · exact hI.2.2.1.2.2.2.2.2.1.fr (by omega) (fun k j a b => by show _ = M (1 + k) j; unfold cv; simp (disch := omega) only [jset_k, jset_j, jset_same, true_and, and_true]) (fun i a b => by simp (disch := omega) only [jset_k, jset_j, jset_same, true_and, and_true]) (fun i a b => by simp (disch := omega) only [jset_k, jset_j, jset_same, true_and, and_true])
                               · exact hI.2.2.1.2.2.2.2.2.2.1.fr (by omega) (fun k j a b => by show _ = M (1 + k) j; unfold cv; simp (disch := omega) only [jset_k, jset_j, jset_same, true_and, and_true]) (fun i a b => by simp (disch := omega) only [jset_k, jset_j, jset_same, true_and, and_true]) (fun i a b => by simp (disch := omega) only [jset_k, jset_j, jset_same, true_and, and_true])
                               · intro k h0 h1
                                 simp (disch := omega) only [jset_k, jset_j, jset_same, true_and, and_true] at h1
                                 simp only [cv1, Int.reduceAdd]
                                 by_cases e : k < M 929 1761
                                 · have h := (hC.rk h0 e).1
                                   simp (disch := omega) only [jset_k, jset_j, jset_same, true_and, and_true]
                                   exact h
                                 · have e2 : k = M 929 1761 := by omega
                                   subst e2
                                   simp (disch := omega) only [jset_k, jset_j, jset_same, true_and, and_true]
                                   all_goals (first | omega | simp)
                               · exact hI.2.2.1.2.2.2.2.2.2.2.2.1.fr (fun k j a b => by show _ = M (1 + k) j; unfold cv; simp (disch := omega) only [jset_k, jset_j, jset_same, true_and, and_true]) (fun i a b => by simp (disch := omega) only [jset_k, jset_j, jset_same, true_and, and_true])
                               · exact hI.2.2.1.2.2.2.2.2.2.2.2.2.1.fr (fun k j a b => by show _ = M (1 + k) j; unfold cv; simp (disch := omega) only [jset_k, jset_j, jset_same, true_and, and_true]) (fun i a b => by simp (disch := omega) only [jset_k, jset_j, jset_same, true_and, and_true])
                               · exact hI.2.2.1.2.2.2.2.2.2.2.2.2.2.1.fr (by omega) (fun k j a b => by show _ = M (1 + k) j; unfold cv; simp (disch := omega) only [jset_k, jset_j, jset_same, true_and, and_true]) (fun i a b => by simp (disch := omega) only [jset_k, jset_j, jset_same, true_and, and_true])
                               · exact hI.2.2.1.2.2.2.2.2.2.2.2.2.2.2.fr hI.2.1.2.2.2.2.2.2.2.2.2.2 (fun k j a b => by show _ = M (1 + k) j; unfold cv; simp (disch := omega) only [jset_k, jset_j, jset_same, true_and, and_true]) (fun i a b => by simp (disch := omega) only [jset_k, jset_j, jset_same, true_and, and_true])))
                  · first
                     | (exfalso; omega)
                     | (skip
                        refine e_bipush 49 dX12_rack_47 (by decide) rfl ?_
                        refine e_iret dX12_rack_49 ?_
                        first
                          | (exact ⟨by omega, hI⟩)
                          | (exfalso; omega)))
            · dsimp only [jpush]
              first
               | (exfalso; omega)
               | (skip
                  refine e_if_ne 29 32 dX12_rack_26 (by decide) (by decide) rfl (fun h => absurd h (by decide)) (fun _ => ?_)
                  refine e_bipush 31 dX12_rack_29 (by decide) rfl ?_
                  refine e_iret dX12_rack_31 ?_
                  first
                    | (exact ⟨by omega, hI⟩)
                    | (exfalso; omega)))
      · dsimp only [jpush]
        first
         | (exfalso; omega)
         | (skip
            refine e_if_eq 17 29 dX12_rack_14 (by decide) (by decide) rfl (fun _ => ?_) (fun h => absurd h (by decide))
            refine e_bipush 31 dX12_rack_29 (by decide) rfl ?_
            refine e_iret dX12_rack_31 ?_
            first
              | (exact ⟨by omega, hI⟩)
              | (exfalso; omega))
  · dsimp only [jpush]
    refine e_if_eq 10 20 dX11_rack_7 (by decide) (by decide) rfl (fun _ => ?_) (fun h => absurd h (by decide))
    refine e_bipush 22 dX11_rack_20 (by decide) rfl ?_
    refine e_iret dX11_rack_22 ?_
    refine jCt_of mt_yX12_rack (Nat.le_of_ble_eq_true rfl) (fun X2 => ?_)
    refine e_aload_n (i := 0) 1 dX12_rack_0 rfl rfl rfl ?_
    refine e_iconst 2 dX12_rack_1 rfl ?_
    refine e_put0 (j := 0) 5 fl_12_1 dX12_rack_2 at_928 rfl rfl rfl (by decide) hI.1 rfl ?_
    refine e_iload_n (i := 1) 6 dX12_rack_5 rfl rfl rfl ?_
    refine e_i2l 7 dX12_rack_6 (by omega) rfl ?_
    refine e_lconst1 8 dX12_rack_7 rfl ?_
    refine e_ldc2 (z := (99)) 11 (ix := 211) wd_1496 (by decide) dX12_rack_8 rfl ?_
    refine e_callS 14 mt_yX12_within ms_yX12_within wd_1390 (by decide) dX12_rack_11 rfl rfl (Nat.le_of_ble_eq_true rfl) (jroom (by decide)) rfl (m_within (by omega) (by omega) (by omega) (fun w11 => ?_) (fun w11 => ?_))
    · dsimp only [jpush]
      first
       | (exfalso; omega)
       | (skip
          refine e_if_eq 17 29 dX12_rack_14 (by decide) (by decide) rfl (fun h => absurd h (by decide)) (fun _ => ?_)
          refine e_iload_n (i := 2) 18 dX12_rack_17 rfl rfl rfl ?_
          refine e_i2l 19 dX12_rack_18 (by omega) rfl ?_
          refine e_lconst0 20 dX12_rack_19 rfl ?_
          refine e_ldc2 (z := (99)) 23 (ix := 211) wd_1496 (by decide) dX12_rack_20 rfl ?_
          refine e_callS 26 mt_yX12_within ms_yX12_within wd_1390 (by decide) dX12_rack_23 rfl rfl (Nat.le_of_ble_eq_true rfl) (jroom (by decide)) rfl (m_within (by omega) (by omega) (by omega) (fun w23 => ?_) (fun w23 => ?_))
          · dsimp only [jpush]
            first
             | (exfalso; omega)
             | (skip
                refine e_if_ne 29 32 dX12_rack_26 (by decide) (by decide) rfl (fun _ => ?_) (fun h => absurd h (by decide))
                refine e_aload_n (i := 0) 33 dX12_rack_32 rfl rfl rfl ?_
                refine e_getr (j := 1) 36 fl_12_13 dX12_rack_33 at_928 rfl rfl tp_928_1 rfl ?_
                refine e_sipush 39 dX12_rack_36 (by decide) rfl ?_
                refine e_iald 40 dX12_rack_39 ar_929 (by decide) (by decide) rfl (fun r39 => ?_)
                refine e_istore_n (i := 3) (lsn := [(3, _), (0, _), (1, _), (2, _)]) 41 dX12_rack_40 rfl (by decide) rfl rfl ?_
                refine e_iload_n (i := 3) 42 dX12_rack_41 rfl rfl rfl ?_
                refine e_bipush 44 dX12_rack_42 (by decide) rfl ?_
                refine e_icmp_ne 47 50 dX12_rack_44 (by omega) (by decide) (by decide) rfl (fun b44 => ?_) (fun b44 => ?_)
                · first
                   | (exfalso; omega)
                   | (skip
                      refine e_aload_n (i := 0) 51 dX12_rack_50 rfl rfl rfl ?_
                      refine e_getr (j := 1) 54 fl_12_13 dX12_rack_51 at_928 rfl rfl tp_928_1 rfl ?_
                      refine e_sipush 57 dX12_rack_54 (by decide) rfl ?_
                      refine e_iload_n (i := 3) 58 dX12_rack_57 rfl rfl rfl ?_
                      refine e_iadd 59 dX12_rack_58 rfl ?_
                      refine e_iload_n (i := 1) 60 dX12_rack_59 rfl rfl rfl ?_
                      refine e_iast 61 dX12_rack_60 ar_929 (by omega) (by omega) (by omega) rfl ?_
                      refine e_aload_n (i := 0) 62 dX12_rack_61 rfl rfl rfl ?_
                      refine e_getr (j := 1) 65 fl_12_13 dX12_rack_62 at_928 rfl rfl tp_928_1 rfl ?_
                      refine e_sipush 68 dX12_rack_65 (by decide) rfl ?_
                      refine e_iload_n (i := 3) 69 dX12_rack_68 rfl rfl rfl ?_
                      refine e_iadd 70 dX12_rack_69 rfl ?_
                      refine e_iload_n (i := 2) 71 dX12_rack_70 rfl rfl rfl ?_
                      refine e_iast 72 dX12_rack_71 ar_929 (by omega) (by omega) (by omega) rfl ?_
                      refine e_aload_n (i := 0) 73 dX12_rack_72 rfl rfl rfl ?_
                      refine e_getr (j := 1) 76 fl_12_13 dX12_rack_73 at_928 rfl rfl tp_928_1 rfl ?_
                      refine e_sipush 79 dX12_rack_76 (by decide) rfl ?_
                      refine e_dup2 80 dX12_rack_79 rfl rfl rfl ?_
                      refine e_iald 81 dX12_rack_80 ar_929 (by decide) (by decide) rfl (fun r80 => ?_)
                      simp (disch := omega) only [jset_k, jset_j, jset_same, true_and, and_true] at r80 ⊢
                      refine e_iconst 82 dX12_rack_81 rfl ?_
                      refine e_iadd 83 dX12_rack_82 rfl ?_
                      refine e_iast 84 dX12_rack_83 ar_929 (by decide) (by decide) (by omega) rfl ?_
                      refine e_iload_n (i := 3) 85 dX12_rack_84 rfl rfl rfl ?_
                      refine e_iret dX12_rack_85 ?_
                      first
                        | (exact ⟨by omega, hI⟩)
                        | (exfalso; omega)
                        | (refine ⟨by omega, ?_⟩
                           simp only [hn.2.2.2.2.1]
                           refine hI.live ?_ ?_ ?_
                           · repeat (first | exact Live.rf | refine Live.c ?_ (by omega) | refine Live.r ?_ (by omega) | refine Live.s ?_ (by omega))
                           · refine ⟨?_, ?_, ?_, ?_, ?_, ?_, ?_, ?_, ?_, ?_, ?_⟩
                             · have h := hI.2.1.1
                               unfold RCnt at h ⊢
                               simp (disch := omega) only [jset_k, jset_j, jset_same, true_and, and_true]
                               omega
                             · exact hI.2.1.2.1.fr (fun i a b => by simp (disch := omega) only [jset_k, jset_j, jset_same, true_and, and_true])
                             · exact hI.2.1.2.2.1.fr (fun i a b => by simp (disch := omega) only [jset_k, jset_j, jset_same, true_and, and_true])
                             · exact hI.2.1.2.2.2.1.fr (by omega) (fun i a b => by simp (disch := omega) only [jset_k, jset_j, jset_same, true_and, and_true])
                             · exact hI.2.1.2.2.2.2.1.fr (by omega) (fun i a b => by simp (disch := omega) only [jset_k, jset_j, jset_same, true_and, and_true]) (fun i a b => by simp (disch := omega) only [jset_k, jset_j, jset_same, true_and, and_true])
                             · exact hI.2.1.2.2.2.2.2.1.fr (by omega) (fun i a b => by simp (disch := omega) only [jset_k, jset_j, jset_same, true_and, and_true]) (fun i a b => by simp (disch := omega) only [jset_k, jset_j, jset_same, true_and, and_true]) (by simp (disch := omega) only [jset_k, jset_j, jset_same, true_and, and_true]; omega)
                             · exact hI.2.1.2.2.2.2.2.2.1.fr (by omega) (by simp (disch := omega) only [jset_k, jset_j, jset_same, true_and, and_true]) (fun i a b => by simp (disch := omega) only [jset_k, jset_j, jset_same, true_and, and_true])
                             · exact hI.2.1.2.2.2.2.2.2.2.1.fr (by omega) (fun i a b => by simp (disch := omega) only [jset_k, jset_j, jset_same, true_and, and_true]) (fun i a b => by simp (disch := omega) only [jset_k, jset_j, jset_same, true_and, and_true]) (by simp (disch := omega) only [jset_k, jset_j, jset_same, true_and, and_true]; omega)
                             · intro k h0 h1
                               simp (disch := omega) only [jset_k, jset_j, jset_same, true_and, and_true] at h1
                               by_cases e : k < M 929 1761
                               · have h := hI.2.1.2.2.2.2.2.2.2.2.1 k h0 e
                                 simp (disch := omega) only [jset_k, jset_j, jset_same, true_and, and_true]
                                 exact h
                               · have e2 : k = M 929 1761 := by omega
                                 subst e2
                                 simp (disch := omega) only [jset_k, jset_j, jset_same, true_and, and_true]
                                 omega
                             · exact hI.2.1.2.2.2.2.2.2.2.2.2.1.fr (fun i a b => by simp (disch := omega) only [jset_k, jset_j, jset_same, true_and, and_true])
                             · exact hI.2.1.2.2.2.2.2.2.2.2.2.2.fr (fun i a b => by simp (disch := omega) only [jset_k, jset_j, jset_same, true_and, and_true])
                           · refine ⟨?_, ?_, ?_, ?_, ?_, ?_, ?_, ?_, ?_, ?_, ?_, ?_⟩
                             · have h := hC.cnt
                               unfold CCnt cv
                               simp (disch := omega) only [jset_k, jset_j, jset_same, true_and, and_true, Int.reduceAdd]
                               first | omega | exact h
                             · exact hI.2.2.1.2.1.fr hI.2.1.2.1 (by omega) (fun k j a b => by show _ = M (1 + k) j; unfold cv; simp (disch := omega) only [jset_k, jset_j, jset_same, true_and, and_true]) (fun i a b => by simp (disch := omega) only [jset_k, jset_j, jset_same, true_and, and_true])
                             · exact hI.2.2.1.2.2.1.fr hI.2.1.2.2.1 (by omega) (fun k j a b => by show _ = M (1 + k) j; unfold cv; simp (disch := omega) only [jset_k, jset_j, jset_same, true_and, and_true]) (fun i a b => by simp (disch := omega) only [jset_k, jset_j, jset_same, true_and, and_true])
                             · exact hI.2.2.1.2.2.2.1.fr (by omega) (fun k j a b => by show _ = M (1 + k) j; unfold cv; simp (disch := omega) only [jset_k, jset_j, jset_same, true_and, and_true]) (fun i a b => by simp (disch := omega) only [jset_k, jset_j, jset_same, true_and, and_true])
                             · exact hI.2.2.1.2.2.2.2.1.fr (by omega) (fun k j a b => by show _ = M (1 + k) j; unfold cv; simp (disch := omega) only [jset_k, jset_j, jset_same, true_and, and_true]) (fun i a b => by simp (disch := omega) only [jset_k, jset_j, jset_same, true_and, and_true]) (fun i a b => by simp (disch := omega) only [jset_k, jset_j, jset_same, true_and, and_true])
                             · exact hI.2.2.1.2.2.2.2.2.1.fr (by omega) (fun k j a b => by show _ = M (1 + k) j; unfold cv; simp (disch := omega) only [jset_k, jset_j, jset_same, true_and, and_true]) (fun i a b => by simp (disch := omega) only [jset_k, jset_j, jset_same, true_and, and_true]) (fun i a b => by simp (disch := omega) only [jset_k, jset_j, jset_same, true_and, and_true])
                             · exact hI.2.2.1.2.2.2.2.2.2.1.fr (by omega) (fun k j a b => by show _ = M (1 + k) j; unfold cv; simp (disch := omega) only [jset_k, jset_j, jset_same, true_and, and_true]) (fun i a b => by simp (disch := omega) only [jset_k, jset_j, jset_same, true_and, and_true]) (fun i a b => by simp (disch := omega) only [jset_k, jset_j, jset_same, true_and, and_true])
                             · intro k h0 h1
                               simp (disch := omega) only [jset_k, jset_j, jset_same, true_and, and_true] at h1
                               simp only [cv1, Int.reduceAdd]
                               by_cases e : k < M 929 1761
                               · have h := (hC.rk h0 e).1
                                 simp (disch := omega) only [jset_k, jset_j, jset_same, true_and, and_true]
                                 exact h
                               · have e2 : k = M 929 1761 := by omega
                                 subst e2
                                 simp (disch := omega) only [jset_k, jset_j, jset_same, true_and, and_true]
                                 all_goals (first | omega | simp)
                             · exact hI.2.2.1.2.2.2.2.2.2.2.2.1.fr (fun k j a b => by show _ = M (1 + k) j; unfold cv; simp (disch := omega) only [jset_k, jset_j, jset_same, true_and, and_true]) (fun i a b => by simp (disch := omega) only [jset_k, jset_j, jset_same, true_and, and_true])
                             · exact hI.2.2.1.2.2.2.2.2.2.2.2.2.1.fr (fun k j a b => by show _ = M (1 + k) j; unfold cv; simp (disch := omega) only [jset_k, jset_j, jset_same, true_and, and_true]) (fun i a b => by simp (disch := omega) only [jset_k, jset_j, jset_same, true_and, and_true])
                             · exact hI.2.2.1.2.2.2.2.2.2.2.2.2.2.1.fr (by omega) (fun k j a b => by show _ = M (1 + k) j; unfold cv; simp (disch := omega) only [jset_k, jset_j, jset_same, true_and, and_true]) (fun i a b => by simp (disch := omega) only [jset_k, jset_j, jset_same, true_and, and_true])
                             · exact hI.2.2.1.2.2.2.2.2.2.2.2.2.2.2.fr hI.2.1.2.2.2.2.2.2.2.2.2.2 (fun k j a b => by show _ = M (1 + k) j; unfold cv; simp (disch := omega) only [jset_k, jset_j, jset_same, true_and, and_true]) (fun i a b => by simp (disch := omega) only [jset_k, jset_j, jset_same, true_and, and_true])))
                · first
                   | (exfalso; omega)
                   | (skip
                      refine e_bipush 49 dX12_rack_47 (by decide) rfl ?_
                      refine e_iret dX12_rack_49 ?_
                      first
                        | (exact ⟨by omega, hI⟩)
                        | (exfalso; omega)))
          · dsimp only [jpush]
            first
             | (exfalso; omega)
             | (skip
                refine e_if_ne 29 32 dX12_rack_26 (by decide) (by decide) rfl (fun h => absurd h (by decide)) (fun _ => ?_)
                refine e_bipush 31 dX12_rack_29 (by decide) rfl ?_
                refine e_iret dX12_rack_31 ?_
                first
                  | (exact ⟨by omega, hI⟩)
                  | (exfalso; omega)))
    · dsimp only [jpush]
      first
       | (exfalso; omega)
       | (skip
          refine e_if_eq 17 29 dX12_rack_14 (by decide) (by decide) rfl (fun _ => ?_) (fun h => absurd h (by decide))
          refine e_bipush 31 dX12_rack_29 (by decide) rfl ?_
          refine e_iret dX12_rack_31 ?_
          first
            | (exact ⟨by omega, hI⟩)
            | (exfalso; omega))

theorem p_duty {M : jM} (hI : Inv M) {k : Int} (hk : -2147483648 ≤ k ∧ k ≤ 2147483647) : jCt yX11_duty cX11_duty 3 (some .int) 2 [jR 0, jI k] M (fun z M1 => jCt yX12_duty cX12_duty 3 (some .int) 2 [jR 928, jI k] M1 (fun z2 M2 => z = z2 ∧ Inv M2)) := by
  have hC := hI.cr
  have hn := hC.cnt
  have hg := hC.rng
  refine jCt_of mt_yX11_duty (Nat.le_of_ble_eq_true rfl) (fun X => ?_)
  refine e_iload_n (i := 1) 1 dX11_duty_0 rfl rfl rfl ?_
  refine e_iconst 2 dX11_duty_1 rfl ?_
  refine e_iconst 3 dX11_duty_2 rfl ?_
  refine e_callS 6 mt_yX11_within ms_yX11_within wd_531 (by decide) dX11_duty_3 rfl rfl (Nat.le_of_ble_eq_true rfl) (jroom (by decide)) rfl (c_within (by omega) (by omega) (by omega) (fun w3 => ?_) (fun w3 => ?_))
  · dsimp only [jpush]
    refine e_if_ne 9 12 dX11_duty_6 (by decide) (by decide) rfl (fun _ => ?_) (fun h => absurd h (by decide))
    refine e_aload_n (i := 0) 13 dX11_duty_12 rfl rfl rfl ?_
    refine e_getr (j := 0) 16 fl_11_10 dX11_duty_13 at_0 rfl rfl tp_0_0 rfl ?_
    refine e_geti (j := 17) 19 fl_11_394 dX11_duty_16 at_1 (by decide) rfl rfl (fun r16 => ?_)
    refine e_istore_n (i := 2) (lsn := [(2, _), (0, _), (1, _)]) 20 dX11_duty_19 rfl (by decide) rfl rfl ?_
    refine e_aload_n (i := 0) 21 dX11_duty_20 rfl rfl rfl ?_
    refine e_getr (j := 0) 24 fl_11_10 dX11_duty_21 at_0 rfl rfl tp_0_0 rfl ?_
    refine e_iload_n (i := 1) 25 dX11_duty_24 rfl rfl rfl ?_
    refine e_puti (j := 17) 28 fl_11_394 dX11_duty_25 at_1 rfl rfl rfl (by omega) rfl ?_
    refine e_iload_n (i := 2) 29 dX11_duty_28 rfl rfl rfl ?_
    refine e_iret dX11_duty_29 ?_
    refine jCt_of mt_yX12_duty (Nat.le_of_ble_eq_true rfl) (fun X2 => ?_)
    refine e_aload_n (i := 0) 1 dX12_duty_0 rfl rfl rfl ?_
    refine e_iconst 2 dX12_duty_1 rfl ?_
    refine e_put0 (j := 0) 5 fl_12_1 dX12_duty_2 at_928 rfl rfl rfl (by decide) (by simp (disch := omega) only [jset_k, jset_j, jset_same, true_and, and_true]; exact hI.1) rfl ?_
    refine e_iload_n (i := 1) 6 dX12_duty_5 rfl rfl rfl ?_
    refine e_i2l 7 dX12_duty_6 (by omega) rfl ?_
    refine e_lconst0 8 dX12_duty_7 rfl ?_
    refine e_ldc2 (z := (3)) 11 (ix := 159) wd_1442 (by decide) dX12_duty_8 rfl ?_
    refine e_callS 14 mt_yX12_within ms_yX12_within wd_1390 (by decide) dX12_duty_11 rfl rfl (Nat.le_of_ble_eq_true rfl) (jroom (by decide)) rfl (m_within (by omega) (by omega) (by omega) (fun w11 => ?_) (fun w11 => ?_))
    · dsimp only [jpush]
      (try simp (disch := omega) only [jset_k, jset_j, jset_same, true_and, and_true] at w11)
      first
       | (exfalso; omega)
       | (skip
          refine e_if_ne 17 20 dX12_duty_14 (by decide) (by decide) rfl (fun _ => ?_) (fun h => absurd h (by decide))
          refine e_aload_n (i := 0) 21 dX12_duty_20 rfl rfl rfl ?_
          refine e_getr (j := 1) 24 fl_12_13 dX12_duty_21 at_928 rfl rfl tp_928_1 rfl ?_
          refine e_sipush 27 dX12_duty_24 (by decide) rfl ?_
          refine e_iald 28 dX12_duty_27 ar_929 (by decide) (by decide) rfl (fun r27 => ?_)
          simp (disch := omega) only [jset_k, jset_j, jset_same, true_and, and_true] at r27 ⊢
          refine e_istore_n (i := 2) (lsn := [(2, _), (0, _), (1, _)]) 29 dX12_duty_28 rfl (by decide) rfl rfl ?_
          refine e_aload_n (i := 0) 30 dX12_duty_29 rfl rfl rfl ?_
          refine e_getr (j := 1) 33 fl_12_13 dX12_duty_30 at_928 rfl rfl tp_928_1 rfl ?_
          refine e_sipush 36 dX12_duty_33 (by decide) rfl ?_
          refine e_iload_n (i := 1) 37 dX12_duty_36 rfl rfl rfl ?_
          refine e_iast 38 dX12_duty_37 ar_929 (by decide) (by decide) (by omega) rfl ?_
          refine e_iload_n (i := 2) 39 dX12_duty_38 rfl rfl rfl ?_
          refine e_iret dX12_duty_39 ?_
          first
            | (exact ⟨by omega, hI⟩)
            | (exfalso; omega)
            | (refine ⟨by omega, ?_⟩
               refine hI.live ?_ ?_ ?_
               · repeat (first | exact Live.rf | refine Live.c ?_ (by omega) | refine Live.r ?_ (by omega) | refine Live.s ?_ (by omega))
               · refine ⟨?_, ?_, ?_, ?_, ?_, ?_, ?_, ?_, ?_, ?_, ?_⟩
                 · have h := hI.2.1.1
                   unfold RCnt at h ⊢
                   simp (disch := omega) only [jset_k, jset_j, jset_same, true_and, and_true]
                   omega
                 · exact hI.2.1.2.1.fr (fun i a b => by simp (disch := omega) only [jset_k, jset_j, jset_same, true_and, and_true])
                 · exact hI.2.1.2.2.1.fr (fun i a b => by simp (disch := omega) only [jset_k, jset_j, jset_same, true_and, and_true])
                 · exact hI.2.1.2.2.2.1.fr (by omega) (fun i a b => by simp (disch := omega) only [jset_k, jset_j, jset_same, true_and, and_true])
                 · exact hI.2.1.2.2.2.2.1.fr (by omega) (fun i a b => by simp (disch := omega) only [jset_k, jset_j, jset_same, true_and, and_true]) (fun i a b => by simp (disch := omega) only [jset_k, jset_j, jset_same, true_and, and_true])
                 · exact hI.2.1.2.2.2.2.2.1.fr (by omega) (fun i a b => by simp (disch := omega) only [jset_k, jset_j, jset_same, true_and, and_true]) (fun i a b => by simp (disch := omega) only [jset_k, jset_j, jset_same, true_and, and_true]) (by simp (disch := omega) only [jset_k, jset_j, jset_same, true_and, and_true]; omega)
                 · exact hI.2.1.2.2.2.2.2.2.1.fr (by omega) (by simp (disch := omega) only [jset_k, jset_j, jset_same, true_and, and_true]) (fun i a b => by simp (disch := omega) only [jset_k, jset_j, jset_same, true_and, and_true])
                 · exact hI.2.1.2.2.2.2.2.2.2.1.fr (by omega) (fun i a b => by simp (disch := omega) only [jset_k, jset_j, jset_same, true_and, and_true]) (fun i a b => by simp (disch := omega) only [jset_k, jset_j, jset_same, true_and, and_true]) (by simp (disch := omega) only [jset_k, jset_j, jset_same, true_and, and_true]; omega)
                 · exact hI.2.1.2.2.2.2.2.2.2.2.1.fr (by omega) (fun i a b => by simp (disch := omega) only [jset_k, jset_j, jset_same, true_and, and_true])
                 · exact hI.2.1.2.2.2.2.2.2.2.2.2.1.fr (fun i a b => by simp (disch := omega) only [jset_k, jset_j, jset_same, true_and, and_true])
                 · exact hI.2.1.2.2.2.2.2.2.2.2.2.2.fr (fun i a b => by simp (disch := omega) only [jset_k, jset_j, jset_same, true_and, and_true])
               · refine ⟨?_, ?_, ?_, ?_, ?_, ?_, ?_, ?_, ?_, ?_, ?_, ?_⟩
                 · have h := hC.cnt
                   unfold CCnt cv
                   simp (disch := omega) only [jset_k, jset_j, jset_same, true_and, and_true, Int.reduceAdd]
                   first | omega | exact h
                 · exact hI.2.2.1.2.1.fr hI.2.1.2.1 (by omega) (fun k j a b => by show _ = M (1 + k) j; unfold cv; simp (disch := omega) only [jset_k, jset_j, jset_same, true_and, and_true]) (fun i a b => by simp (disch := omega) only [jset_k, jset_j, jset_same, true_and, and_true])
                 · exact hI.2.2.1.2.2.1.fr hI.2.1.2.2.1 (by omega) (fun k j a b => by show _ = M (1 + k) j; unfold cv; simp (disch := omega) only [jset_k, jset_j, jset_same, true_and, and_true]) (fun i a b => by simp (disch := omega) only [jset_k, jset_j, jset_same, true_and, and_true])
                 · exact hI.2.2.1.2.2.2.1.fr (by omega) (fun k j a b => by show _ = M (1 + k) j; unfold cv; simp (disch := omega) only [jset_k, jset_j, jset_same, true_and, and_true]) (fun i a b => by simp (disch := omega) only [jset_k, jset_j, jset_same, true_and, and_true])
                 · exact hI.2.2.1.2.2.2.2.1.fr (by omega) (fun k j a b => by show _ = M (1 + k) j; unfold cv; simp (disch := omega) only [jset_k, jset_j, jset_same, true_and, and_true]) (fun i a b => by simp (disch := omega) only [jset_k, jset_j, jset_same, true_and, and_true]) (fun i a b => by simp (disch := omega) only [jset_k, jset_j, jset_same, true_and, and_true])
                 · exact hI.2.2.1.2.2.2.2.2.1.fr (by omega) (fun k j a b => by show _ = M (1 + k) j; unfold cv; simp (disch := omega) only [jset_k, jset_j, jset_same, true_and, and_true]) (fun i a b => by simp (disch := omega) only [jset_k, jset_j, jset_same, true_and, and_true]) (fun i a b => by simp (disch := omega) only [jset_k, jset_j, jset_same, true_and, and_true])
                 · exact hI.2.2.1.2.2.2.2.2.2.1.fr (by omega) (fun k j a b => by show _ = M (1 + k) j; unfold cv; simp (disch := omega) only [jset_k, jset_j, jset_same, true_and, and_true]) (fun i a b => by simp (disch := omega) only [jset_k, jset_j, jset_same, true_and, and_true]) (fun i a b => by simp (disch := omega) only [jset_k, jset_j, jset_same, true_and, and_true])
                 · exact hI.2.2.1.2.2.2.2.2.2.2.1.fr (by omega) (fun k j a b => by show _ = M (1 + k) j; unfold cv; simp (disch := omega) only [jset_k, jset_j, jset_same, true_and, and_true]) (fun i a b => by simp (disch := omega) only [jset_k, jset_j, jset_same, true_and, and_true])
                 · exact hI.2.2.1.2.2.2.2.2.2.2.2.1.fr (fun k j a b => by show _ = M (1 + k) j; unfold cv; simp (disch := omega) only [jset_k, jset_j, jset_same, true_and, and_true]) (fun i a b => by simp (disch := omega) only [jset_k, jset_j, jset_same, true_and, and_true])
                 · exact hI.2.2.1.2.2.2.2.2.2.2.2.2.1.fr (fun k j a b => by show _ = M (1 + k) j; unfold cv; simp (disch := omega) only [jset_k, jset_j, jset_same, true_and, and_true]) (fun i a b => by simp (disch := omega) only [jset_k, jset_j, jset_same, true_and, and_true])
                 · exact hI.2.2.1.2.2.2.2.2.2.2.2.2.2.1.fr (by omega) (fun k j a b => by show _ = M (1 + k) j; unfold cv; simp (disch := omega) only [jset_k, jset_j, jset_same, true_and, and_true]) (fun i a b => by simp (disch := omega) only [jset_k, jset_j, jset_same, true_and, and_true])
                 · exact hI.2.2.1.2.2.2.2.2.2.2.2.2.2.2.fr hI.2.1.2.2.2.2.2.2.2.2.2.2 (fun k j a b => by show _ = M (1 + k) j; unfold cv; simp (disch := omega) only [jset_k, jset_j, jset_same, true_and, and_true]) (fun i a b => by simp (disch := omega) only [jset_k, jset_j, jset_same, true_and, and_true])))
    · dsimp only [jpush]
      (try simp (disch := omega) only [jset_k, jset_j, jset_same, true_and, and_true] at w11)
      first
       | (exfalso; omega)
       | (skip
          refine e_if_ne 17 20 dX12_duty_14 (by decide) (by decide) rfl (fun h => absurd h (by decide)) (fun _ => ?_)
          refine e_bipush 19 dX12_duty_17 (by decide) rfl ?_
          refine e_iret dX12_duty_19 ?_
          first
            | (exact ⟨by omega, hI⟩)
            | (exfalso; omega)
            | (refine ⟨by omega, ?_⟩
               refine hI.live ?_ ?_ ?_
               · repeat (first | exact Live.rf | refine Live.c ?_ (by omega) | refine Live.r ?_ (by omega) | refine Live.s ?_ (by omega))
               · refine ⟨?_, ?_, ?_, ?_, ?_, ?_, ?_, ?_, ?_, ?_, ?_⟩
                 · have h := hI.2.1.1
                   unfold RCnt at h ⊢
                   simp (disch := omega) only [jset_k, jset_j, jset_same, true_and, and_true]
                   omega
                 · exact hI.2.1.2.1.fr (fun i a b => by simp (disch := omega) only [jset_k, jset_j, jset_same, true_and, and_true])
                 · exact hI.2.1.2.2.1.fr (fun i a b => by simp (disch := omega) only [jset_k, jset_j, jset_same, true_and, and_true])
                 · exact hI.2.1.2.2.2.1.fr (by omega) (fun i a b => by simp (disch := omega) only [jset_k, jset_j, jset_same, true_and, and_true])
                 · exact hI.2.1.2.2.2.2.1.fr (by omega) (fun i a b => by simp (disch := omega) only [jset_k, jset_j, jset_same, true_and, and_true]) (fun i a b => by simp (disch := omega) only [jset_k, jset_j, jset_same, true_and, and_true])
                 · exact hI.2.1.2.2.2.2.2.1.fr (by omega) (fun i a b => by simp (disch := omega) only [jset_k, jset_j, jset_same, true_and, and_true]) (fun i a b => by simp (disch := omega) only [jset_k, jset_j, jset_same, true_and, and_true]) (by simp (disch := omega) only [jset_k, jset_j, jset_same, true_and, and_true]; omega)
                 · exact hI.2.1.2.2.2.2.2.2.1.fr (by omega) (by simp (disch := omega) only [jset_k, jset_j, jset_same, true_and, and_true]) (fun i a b => by simp (disch := omega) only [jset_k, jset_j, jset_same, true_and, and_true])
                 · exact hI.2.1.2.2.2.2.2.2.2.1.fr (by omega) (fun i a b => by simp (disch := omega) only [jset_k, jset_j, jset_same, true_and, and_true]) (fun i a b => by simp (disch := omega) only [jset_k, jset_j, jset_same, true_and, and_true]) (by simp (disch := omega) only [jset_k, jset_j, jset_same, true_and, and_true]; omega)
                 · exact hI.2.1.2.2.2.2.2.2.2.2.1.fr (by omega) (fun i a b => by simp (disch := omega) only [jset_k, jset_j, jset_same, true_and, and_true])
                 · exact hI.2.1.2.2.2.2.2.2.2.2.2.1.fr (fun i a b => by simp (disch := omega) only [jset_k, jset_j, jset_same, true_and, and_true])
                 · exact hI.2.1.2.2.2.2.2.2.2.2.2.2.fr (fun i a b => by simp (disch := omega) only [jset_k, jset_j, jset_same, true_and, and_true])
               · refine ⟨?_, ?_, ?_, ?_, ?_, ?_, ?_, ?_, ?_, ?_, ?_, ?_⟩
                 · have h := hC.cnt
                   unfold CCnt cv
                   simp (disch := omega) only [jset_k, jset_j, jset_same, true_and, and_true, Int.reduceAdd]
                   first | omega | exact h
                 · exact hI.2.2.1.2.1.fr hI.2.1.2.1 (by omega) (fun k j a b => by show _ = M (1 + k) j; unfold cv; simp (disch := omega) only [jset_k, jset_j, jset_same, true_and, and_true]) (fun i a b => by simp (disch := omega) only [jset_k, jset_j, jset_same, true_and, and_true])
                 · exact hI.2.2.1.2.2.1.fr hI.2.1.2.2.1 (by omega) (fun k j a b => by show _ = M (1 + k) j; unfold cv; simp (disch := omega) only [jset_k, jset_j, jset_same, true_and, and_true]) (fun i a b => by simp (disch := omega) only [jset_k, jset_j, jset_same, true_and, and_true])
                 · exact hI.2.2.1.2.2.2.1.fr (by omega) (fun k j a b => by show _ = M (1 + k) j; unfold cv; simp (disch := omega) only [jset_k, jset_j, jset_same, true_and, and_true]) (fun i a b => by simp (disch := omega) only [jset_k, jset_j, jset_same, true_and, and_true])
                 · exact hI.2.2.1.2.2.2.2.1.fr (by omega) (fun k j a b => by show _ = M (1 + k) j; unfold cv; simp (disch := omega) only [jset_k, jset_j, jset_same, true_and, and_true]) (fun i a b => by simp (disch := omega) only [jset_k, jset_j, jset_same, true_and, and_true]) (fun i a b => by simp (disch := omega) only [jset_k, jset_j, jset_same, true_and, and_true])
                 · exact hI.2.2.1.2.2.2.2.2.1.fr (by omega) (fun k j a b => by show _ = M (1 + k) j; unfold cv; simp (disch := omega) only [jset_k, jset_j, jset_same, true_and, and_true]) (fun i a b => by simp (disch := omega) only [jset_k, jset_j, jset_same, true_and, and_true]) (fun i a b => by simp (disch := omega) only [jset_k, jset_j, jset_same, true_and, and_true])
                 · exact hI.2.2.1.2.2.2.2.2.2.1.fr (by omega) (fun k j a b => by show _ = M (1 + k) j; unfold cv; simp (disch := omega) only [jset_k, jset_j, jset_same, true_and, and_true]) (fun i a b => by simp (disch := omega) only [jset_k, jset_j, jset_same, true_and, and_true]) (fun i a b => by simp (disch := omega) only [jset_k, jset_j, jset_same, true_and, and_true])
                 · exact hI.2.2.1.2.2.2.2.2.2.2.1.fr (by omega) (fun k j a b => by show _ = M (1 + k) j; unfold cv; simp (disch := omega) only [jset_k, jset_j, jset_same, true_and, and_true]) (fun i a b => by simp (disch := omega) only [jset_k, jset_j, jset_same, true_and, and_true])
                 · exact hI.2.2.1.2.2.2.2.2.2.2.2.1.fr (fun k j a b => by show _ = M (1 + k) j; unfold cv; simp (disch := omega) only [jset_k, jset_j, jset_same, true_and, and_true]) (fun i a b => by simp (disch := omega) only [jset_k, jset_j, jset_same, true_and, and_true])
                 · exact hI.2.2.1.2.2.2.2.2.2.2.2.2.1.fr (fun k j a b => by show _ = M (1 + k) j; unfold cv; simp (disch := omega) only [jset_k, jset_j, jset_same, true_and, and_true]) (fun i a b => by simp (disch := omega) only [jset_k, jset_j, jset_same, true_and, and_true])
                 · exact hI.2.2.1.2.2.2.2.2.2.2.2.2.2.1.fr (by omega) (fun k j a b => by show _ = M (1 + k) j; unfold cv; simp (disch := omega) only [jset_k, jset_j, jset_same, true_and, and_true]) (fun i a b => by simp (disch := omega) only [jset_k, jset_j, jset_same, true_and, and_true])
                 · exact hI.2.2.1.2.2.2.2.2.2.2.2.2.2.2.fr hI.2.1.2.2.2.2.2.2.2.2.2.2 (fun k j a b => by show _ = M (1 + k) j; unfold cv; simp (disch := omega) only [jset_k, jset_j, jset_same, true_and, and_true]) (fun i a b => by simp (disch := omega) only [jset_k, jset_j, jset_same, true_and, and_true])))
  · dsimp only [jpush]
    refine e_if_ne 9 12 dX11_duty_6 (by decide) (by decide) rfl (fun h => absurd h (by decide)) (fun _ => ?_)
    refine e_bipush 11 dX11_duty_9 (by decide) rfl ?_
    refine e_iret dX11_duty_11 ?_
    refine jCt_of mt_yX12_duty (Nat.le_of_ble_eq_true rfl) (fun X2 => ?_)
    refine e_aload_n (i := 0) 1 dX12_duty_0 rfl rfl rfl ?_
    refine e_iconst 2 dX12_duty_1 rfl ?_
    refine e_put0 (j := 0) 5 fl_12_1 dX12_duty_2 at_928 rfl rfl rfl (by decide) hI.1 rfl ?_
    refine e_iload_n (i := 1) 6 dX12_duty_5 rfl rfl rfl ?_
    refine e_i2l 7 dX12_duty_6 (by omega) rfl ?_
    refine e_lconst0 8 dX12_duty_7 rfl ?_
    refine e_ldc2 (z := (3)) 11 (ix := 159) wd_1442 (by decide) dX12_duty_8 rfl ?_
    refine e_callS 14 mt_yX12_within ms_yX12_within wd_1390 (by decide) dX12_duty_11 rfl rfl (Nat.le_of_ble_eq_true rfl) (jroom (by decide)) rfl (m_within (by omega) (by omega) (by omega) (fun w11 => ?_) (fun w11 => ?_))
    · dsimp only [jpush]
      first
       | (exfalso; omega)
       | (skip
          refine e_if_ne 17 20 dX12_duty_14 (by decide) (by decide) rfl (fun _ => ?_) (fun h => absurd h (by decide))
          refine e_aload_n (i := 0) 21 dX12_duty_20 rfl rfl rfl ?_
          refine e_getr (j := 1) 24 fl_12_13 dX12_duty_21 at_928 rfl rfl tp_928_1 rfl ?_
          refine e_sipush 27 dX12_duty_24 (by decide) rfl ?_
          refine e_iald 28 dX12_duty_27 ar_929 (by decide) (by decide) rfl (fun r27 => ?_)
          refine e_istore_n (i := 2) (lsn := [(2, _), (0, _), (1, _)]) 29 dX12_duty_28 rfl (by decide) rfl rfl ?_
          refine e_aload_n (i := 0) 30 dX12_duty_29 rfl rfl rfl ?_
          refine e_getr (j := 1) 33 fl_12_13 dX12_duty_30 at_928 rfl rfl tp_928_1 rfl ?_
          refine e_sipush 36 dX12_duty_33 (by decide) rfl ?_
          refine e_iload_n (i := 1) 37 dX12_duty_36 rfl rfl rfl ?_
          refine e_iast 38 dX12_duty_37 ar_929 (by decide) (by decide) (by omega) rfl ?_
          refine e_iload_n (i := 2) 39 dX12_duty_38 rfl rfl rfl ?_
          refine e_iret dX12_duty_39 ?_
          first
            | (exact ⟨by omega, hI⟩)
            | (exfalso; omega)
            | (refine ⟨by omega, ?_⟩
               refine hI.live ?_ ?_ ?_
               · repeat (first | exact Live.rf | refine Live.c ?_ (by omega) | refine Live.r ?_ (by omega) | refine Live.s ?_ (by omega))
               · refine ⟨?_, ?_, ?_, ?_, ?_, ?_, ?_, ?_, ?_, ?_, ?_⟩
                 · have h := hI.2.1.1
                   unfold RCnt at h ⊢
                   simp (disch := omega) only [jset_k, jset_j, jset_same, true_and, and_true]
                   omega
                 · exact hI.2.1.2.1.fr (fun i a b => by simp (disch := omega) only [jset_k, jset_j, jset_same, true_and, and_true])
                 · exact hI.2.1.2.2.1.fr (fun i a b => by simp (disch := omega) only [jset_k, jset_j, jset_same, true_and, and_true])
                 · exact hI.2.1.2.2.2.1.fr (by omega) (fun i a b => by simp (disch := omega) only [jset_k, jset_j, jset_same, true_and, and_true])
                 · exact hI.2.1.2.2.2.2.1.fr (by omega) (fun i a b => by simp (disch := omega) only [jset_k, jset_j, jset_same, true_and, and_true]) (fun i a b => by simp (disch := omega) only [jset_k, jset_j, jset_same, true_and, and_true])
                 · exact hI.2.1.2.2.2.2.2.1.fr (by omega) (fun i a b => by simp (disch := omega) only [jset_k, jset_j, jset_same, true_and, and_true]) (fun i a b => by simp (disch := omega) only [jset_k, jset_j, jset_same, true_and, and_true]) (by simp (disch := omega) only [jset_k, jset_j, jset_same, true_and, and_true]; omega)
                 · exact hI.2.1.2.2.2.2.2.2.1.fr (by omega) (by simp (disch := omega) only [jset_k, jset_j, jset_same, true_and, and_true]) (fun i a b => by simp (disch := omega) only [jset_k, jset_j, jset_same, true_and, and_true])
                 · exact hI.2.1.2.2.2.2.2.2.2.1.fr (by omega) (fun i a b => by simp (disch := omega) only [jset_k, jset_j, jset_same, true_and, and_true]) (fun i a b => by simp (disch := omega) only [jset_k, jset_j, jset_same, true_and, and_true]) (by simp (disch := omega) only [jset_k, jset_j, jset_same, true_and, and_true]; omega)
                 · exact hI.2.1.2.2.2.2.2.2.2.2.1.fr (by omega) (fun i a b => by simp (disch := omega) only [jset_k, jset_j, jset_same, true_and, and_true])
                 · exact hI.2.1.2.2.2.2.2.2.2.2.2.1.fr (fun i a b => by simp (disch := omega) only [jset_k, jset_j, jset_same, true_and, and_true])
                 · exact hI.2.1.2.2.2.2.2.2.2.2.2.2.fr (fun i a b => by simp (disch := omega) only [jset_k, jset_j, jset_same, true_and, and_true])
               · refine ⟨?_, ?_, ?_, ?_, ?_, ?_, ?_, ?_, ?_, ?_, ?_, ?_⟩
                 · have h := hC.cnt
                   unfold CCnt cv
                   simp (disch := omega) only [jset_k, jset_j, jset_same, true_and, and_true, Int.reduceAdd]
                   first | omega | exact h
                 · exact hI.2.2.1.2.1.fr hI.2.1.2.1 (by omega) (fun k j a b => by show _ = M (1 + k) j; unfold cv; simp (disch := omega) only [jset_k, jset_j, jset_same, true_and, and_true]) (fun i a b => by simp (disch := omega) only [jset_k, jset_j, jset_same, true_and, and_true])
                 · exact hI.2.2.1.2.2.1.fr hI.2.1.2.2.1 (by omega) (fun k j a b => by show _ = M (1 + k) j; unfold cv; simp (disch := omega) only [jset_k, jset_j, jset_same, true_and, and_true]) (fun i a b => by simp (disch := omega) only [jset_k, jset_j, jset_same, true_and, and_true])
                 · exact hI.2.2.1.2.2.2.1.fr (by omega) (fun k j a b => by show _ = M (1 + k) j; unfold cv; simp (disch := omega) only [jset_k, jset_j, jset_same, true_and, and_true]) (fun i a b => by simp (disch := omega) only [jset_k, jset_j, jset_same, true_and, and_true])
                 · exact hI.2.2.1.2.2.2.2.1.fr (by omega) (fun k j a b => by show _ = M (1 + k) j; unfold cv; simp (disch := omega) only [jset_k, jset_j, jset_same, true_and, and_true]) (fun i a b => by simp (disch := omega) only [jset_k, jset_j, jset_same, true_and, and_true]) (fun i a b => by simp (disch := omega) only [jset_k, jset_j, jset_same, true_and, and_true])
                 · exact hI.2.2.1.2.2.2.2.2.1.fr (by omega) (fun k j a b => by show _ = M (1 + k) j; unfold cv; simp (disch := omega) only [jset_k, jset_j, jset_same, true_and, and_true]) (fun i a b => by simp (disch := omega) only [jset_k, jset_j, jset_same, true_and, and_true]) (fun i a b => by simp (disch := omega) only [jset_k, jset_j, jset_same, true_and, and_true])
                 · exact hI.2.2.1.2.2.2.2.2.2.1.fr (by omega) (fun k j a b => by show _ = M (1 + k) j; unfold cv; simp (disch := omega) only [jset_k, jset_j, jset_same, true_and, and_true]) (fun i a b => by simp (disch := omega) only [jset_k, jset_j, jset_same, true_and, and_true]) (fun i a b => by simp (disch := omega) only [jset_k, jset_j, jset_same, true_and, and_true])
                 · exact hI.2.2.1.2.2.2.2.2.2.2.1.fr (by omega) (fun k j a b => by show _ = M (1 + k) j; unfold cv; simp (disch := omega) only [jset_k, jset_j, jset_same, true_and, and_true]) (fun i a b => by simp (disch := omega) only [jset_k, jset_j, jset_same, true_and, and_true])
                 · exact hI.2.2.1.2.2.2.2.2.2.2.2.1.fr (fun k j a b => by show _ = M (1 + k) j; unfold cv; simp (disch := omega) only [jset_k, jset_j, jset_same, true_and, and_true]) (fun i a b => by simp (disch := omega) only [jset_k, jset_j, jset_same, true_and, and_true])
                 · exact hI.2.2.1.2.2.2.2.2.2.2.2.2.1.fr (fun k j a b => by show _ = M (1 + k) j; unfold cv; simp (disch := omega) only [jset_k, jset_j, jset_same, true_and, and_true]) (fun i a b => by simp (disch := omega) only [jset_k, jset_j, jset_same, true_and, and_true])
                 · exact hI.2.2.1.2.2.2.2.2.2.2.2.2.2.1.fr (by omega) (fun k j a b => by show _ = M (1 + k) j; unfold cv; simp (disch := omega) only [jset_k, jset_j, jset_same, true_and, and_true]) (fun i a b => by simp (disch := omega) only [jset_k, jset_j, jset_same, true_and, and_true])
                 · exact hI.2.2.1.2.2.2.2.2.2.2.2.2.2.2.fr hI.2.1.2.2.2.2.2.2.2.2.2.2 (fun k j a b => by show _ = M (1 + k) j; unfold cv; simp (disch := omega) only [jset_k, jset_j, jset_same, true_and, and_true]) (fun i a b => by simp (disch := omega) only [jset_k, jset_j, jset_same, true_and, and_true])))
    · dsimp only [jpush]
      first
       | (exfalso; omega)
       | (skip
          refine e_if_ne 17 20 dX12_duty_14 (by decide) (by decide) rfl (fun h => absurd h (by decide)) (fun _ => ?_)
          refine e_bipush 19 dX12_duty_17 (by decide) rfl ?_
          refine e_iret dX12_duty_19 ?_
          first
            | (exact ⟨by omega, hI⟩)
            | (exfalso; omega))

theorem p_suit {M : jM} (hI : Inv M) {person : Int} (hperson : -2147483648 ≤ person ∧ person ≤ 2147483647) {kind : Int} (hkind : -2147483648 ≤ kind ∧ kind ≤ 2147483647) {loan : Int} (hloan : -2147483648 ≤ loan ∧ loan ≤ 2147483647) : jCt yX11_suit cX11_suit 4 (some .int) 3 [jR 0, jI person, jI kind, jI loan] M (fun z M1 => jCt yX12_suit cX12_suit 4 (some .int) 2 [jR 928, jI person, jI kind, jI loan] M1 (fun z2 M2 => z = z2 ∧ Inv M2)) := by
  have hC := hI.cr
  have hn := hC.cnt
  have hg := hC.rng
  refine jCt_of mt_yX11_suit (Nat.le_of_ble_eq_true rfl) (fun X => ?_)
  refine e_aload_n (i := 0) 1 dX11_suit_0 rfl rfl rfl ?_
  refine e_getr (j := 0) 4 fl_11_10 dX11_suit_1 at_0 rfl rfl tp_0_0 rfl ?_
  refine e_iload_n (i := 1) 5 dX11_suit_4 rfl rfl rfl ?_
  refine e_callV 8 mt_yX8_hasPerson mv_yX8_hasPerson wd_761 (by decide) dX11_suit_5 at_1 jc_8 rfl rfl rfl (Nat.le_of_ble_eq_true rfl) (jroom (by decide)) rfl (c_hasPerson (by omega) (fun w5 => ?_) (fun w5 => ?_))
  · dsimp only [jpush]
    refine e_if_eq 11 22 dX11_suit_8 (by decide) (by decide) rfl (fun h => absurd h (by decide)) (fun _ => ?_)
    refine e_aload_n (i := 0) 12 dX11_suit_11 rfl rfl rfl ?_
    refine e_getr (j := 0) 15 fl_11_10 dX11_suit_12 at_0 rfl rfl tp_0_0 rfl ?_
    refine e_iload_n (i := 2) 16 dX11_suit_15 rfl rfl rfl ?_
    refine e_callV 19 mt_yX8_hasKind mv_yX8_hasKind wd_903 (by decide) dX11_suit_16 at_1 jc_8 rfl rfl rfl (Nat.le_of_ble_eq_true rfl) (jroom (by decide)) rfl (c_hasKind (by omega) (fun w16 => ?_) (fun w16 => ?_))
    · dsimp only [jpush]
      refine e_if_ne 22 25 dX11_suit_19 (by decide) (by decide) rfl (fun _ => ?_) (fun h => absurd h (by decide))
      refine e_iload_n (i := 3) 26 dX11_suit_25 rfl rfl rfl ?_
      refine e_callS 29 mt_yX11_isLoan ms_yX11_isLoan wd_727 (by decide) dX11_suit_26 rfl rfl (Nat.le_of_ble_eq_true rfl) (jroom (by decide)) rfl (c_isLoan (by omega) (fun w26 => ?_) (fun w26 => ?_))
      · dsimp only [jpush]
        refine e_if_ne 32 35 dX11_suit_29 (by decide) (by decide) rfl (fun _ => ?_) (fun h => absurd h (by decide))
        refine e_aload_n (i := 0) 36 dX11_suit_35 rfl rfl rfl ?_
        refine e_getr (j := 0) 39 fl_11_10 dX11_suit_36 at_0 rfl rfl tp_0_0 rfl ?_
        refine e_getr (j := 7) 42 fl_11_149 dX11_suit_39 at_1 rfl rfl tp_1_7 rfl ?_
        refine e_iload_n (i := 1) 43 dX11_suit_42 rfl rfl rfl ?_
        refine e_aald 44 dX11_suit_43 ar_17 (by decide) (by omega) (by omega) (tp_person (by omega) (by omega)) rfl ?_
        refine e_iload_n (i := 3) 45 dX11_suit_44 rfl rfl rfl ?_
        refine e_puti (j := 4) 48 fl_11_167 dX11_suit_45 (at_person (by omega) (by omega)) rfl rfl rfl (by omega) rfl ?_
        refine e_iconst 49 dX11_suit_48 rfl ?_
        refine e_iret dX11_suit_49 ?_
        refine jCt_of mt_yX12_suit (Nat.le_of_ble_eq_true rfl) (fun X2 => ?_)
        refine e_aload_n (i := 0) 1 dX12_suit_0 rfl rfl rfl ?_
        refine e_iconst 2 dX12_suit_1 rfl ?_
        refine e_put0 (j := 0) 5 fl_12_1 dX12_suit_2 at_928 rfl rfl rfl (by decide) (by simp (disch := omega) only [jset_k, jset_j, jset_same, true_and, and_true]; exact hI.1) rfl ?_
        refine e_aload_n (i := 0) 6 dX12_suit_5 rfl rfl rfl ?_
        refine e_iload_n (i := 1) 7 dX12_suit_6 rfl rfl rfl ?_
        refine e_callV 10 mt_yX12_isPerson mv_yX12_isPerson wd_1506 (by decide) dX12_suit_7 at_928 jc_12 rfl rfl rfl (Nat.le_of_ble_eq_true rfl) (jroom (by decide)) rfl (m_isPerson (by omega) (fun w7 => ?_) (fun w7 => ?_))
        · dsimp only [jpush]
          (try simp (disch := omega) only [jset_k, jset_j, jset_same, true_and, and_true] at w7)
          first
           | (exfalso; omega)
           | (skip
              refine e_if_eq 13 21 dX12_suit_10 (by decide) (by decide) rfl (fun h => absurd h (by decide)) (fun _ => ?_)
              refine e_aload_n (i := 0) 14 dX12_suit_13 rfl rfl rfl ?_
              refine e_iload_n (i := 2) 15 dX12_suit_14 rfl rfl rfl ?_
              refine e_callV 18 mt_yX12_isKind mv_yX12_isKind wd_1619 (by decide) dX12_suit_15 at_928 jc_12 rfl rfl rfl (Nat.le_of_ble_eq_true rfl) (jroom (by decide)) rfl (m_isKind (by omega) (fun w15 => ?_) (fun w15 => ?_))
              · dsimp only [jpush]
                (try simp (disch := omega) only [jset_k, jset_j, jset_same, true_and, and_true] at w15)
                first
                 | (exfalso; omega)
                 | (skip
                    refine e_if_ne 21 24 dX12_suit_18 (by decide) (by decide) rfl (fun _ => ?_) (fun h => absurd h (by decide))
                    refine e_iload_n (i := 3) 25 dX12_suit_24 rfl rfl rfl ?_
                    refine e_i2l 26 dX12_suit_25 (by omega) rfl ?_
                    refine e_lconst1 27 dX12_suit_26 rfl ?_
                    refine e_ldc2 (z := (999)) 30 (ix := 198) wd_1482 (by decide) dX12_suit_27 rfl ?_
                    refine e_callS 33 mt_yX12_within ms_yX12_within wd_1390 (by decide) dX12_suit_30 rfl rfl (Nat.le_of_ble_eq_true rfl) (jroom (by decide)) rfl (m_within (by omega) (by omega) (by omega) (fun w30 => ?_) (fun w30 => ?_))
                    · dsimp only [jpush]
                      (try simp (disch := omega) only [jset_k, jset_j, jset_same, true_and, and_true] at w30)
                      first
                       | (exfalso; omega)
                       | (skip
                          refine e_if_ne 36 39 dX12_suit_33 (by decide) (by decide) rfl (fun _ => ?_) (fun h => absurd h (by decide))
                          refine e_aload_n (i := 0) 40 dX12_suit_39 rfl rfl rfl ?_
                          refine e_getr (j := 1) 43 fl_12_13 dX12_suit_40 at_928 rfl rfl tp_928_1 rfl ?_
                          refine e_sipush 46 dX12_suit_43 (by decide) rfl ?_
                          refine e_iload_n (i := 1) 47 dX12_suit_46 rfl rfl rfl ?_
                          refine e_iadd 48 dX12_suit_47 rfl ?_
                          refine e_iload_n (i := 3) 49 dX12_suit_48 rfl rfl rfl ?_
                          refine e_iast 50 dX12_suit_49 ar_929 (by omega) (by omega) (by omega) rfl ?_
                          refine e_iconst 51 dX12_suit_50 rfl ?_
                          refine e_iret dX12_suit_51 ?_
                          first
                            | (exact ⟨by omega, hI⟩)
                            | (exfalso; omega)
                            | (refine ⟨by omega, ?_⟩
                               refine hI.live ?_ ?_ ?_
                               · repeat (first | exact Live.rf | refine Live.c ?_ (by omega) | refine Live.r ?_ (by omega) | refine Live.s ?_ (by omega))
                               · refine ⟨?_, ?_, ?_, ?_, ?_, ?_, ?_, ?_, ?_, ?_, ?_⟩
                                 · exact hI.2.1.1.fr (fun i hi => by simp (disch := omega) only [jset_k, jset_j, jset_same, true_and, and_true])
                                 · exact hI.2.1.2.1.fr (fun i a b => by simp (disch := omega) only [jset_k, jset_j, jset_same, true_and, and_true])
                                 · exact hI.2.1.2.2.1.fr (fun i a b => by simp (disch := omega) only [jset_k, jset_j, jset_same, true_and, and_true])
                                 · exact hI.2.1.2.2.2.1.fr (by omega) (fun i a b => by simp (disch := omega) only [jset_k, jset_j, jset_same, true_and, and_true])
                                 · intro q h0 h1
                                   simp (disch := omega) only [jset_k, jset_j, jset_same, true_and, and_true] at h1
                                   have h := hI.2.1.2.2.2.2.1 q h0 h1
                                   by_cases e : q = person
                                   · subst e
                                     simp (disch := omega) only [jset_k, jset_j, jset_same, true_and, and_true]
                                     omega
                                   · simp (disch := omega) only [jset_k, jset_j, jset_same, true_and, and_true]
                                     exact h
                                 · exact hI.2.1.2.2.2.2.2.1.fr (by omega) (fun i a b => by simp (disch := omega) only [jset_k, jset_j, jset_same, true_and, and_true]) (fun i a b => by simp (disch := omega) only [jset_k, jset_j, jset_same, true_and, and_true]) (by simp (disch := omega) only [jset_k, jset_j, jset_same, true_and, and_true]; omega)
                                 · exact hI.2.1.2.2.2.2.2.2.1.fr (by omega) (by simp (disch := omega) only [jset_k, jset_j, jset_same, true_and, and_true]) (fun i a b => by simp (disch := omega) only [jset_k, jset_j, jset_same, true_and, and_true])
                                 · exact hI.2.1.2.2.2.2.2.2.2.1.fr (by omega) (fun i a b => by simp (disch := omega) only [jset_k, jset_j, jset_same, true_and, and_true]) (fun i a b => by simp (disch := omega) only [jset_k, jset_j, jset_same, true_and, and_true]) (by simp (disch := omega) only [jset_k, jset_j, jset_same, true_and, and_true]; omega)
                                 · exact hI.2.1.2.2.2.2.2.2.2.2.1.fr (by omega) (fun i a b => by simp (disch := omega) only [jset_k, jset_j, jset_same, true_and, and_true])
                                 · exact hI.2.1.2.2.2.2.2.2.2.2.2.1.fr (fun i a b => by simp (disch := omega) only [jset_k, jset_j, jset_same, true_and, and_true])
                                 · exact hI.2.1.2.2.2.2.2.2.2.2.2.2.fr (fun i a b => by simp (disch := omega) only [jset_k, jset_j, jset_same, true_and, and_true])
                               · refine ⟨?_, ?_, ?_, ?_, ?_, ?_, ?_, ?_, ?_, ?_, ?_, ?_⟩
                                 · exact hI.2.2.1.1.fr (fun j => by show _ = M (1 + 0) j; unfold cv; simp (disch := omega) only [jset_k, jset_j, jset_same, true_and, and_true]) (fun i hi => by simp (disch := omega) only [jset_k, jset_j, jset_same, true_and, and_true])
                                 · exact hI.2.2.1.2.1.fr hI.2.1.2.1 (by omega) (fun k j a b => by show _ = M (1 + k) j; unfold cv; simp (disch := omega) only [jset_k, jset_j, jset_same, true_and, and_true]) (fun i a b => by simp (disch := omega) only [jset_k, jset_j, jset_same, true_and, and_true])
                                 · exact hI.2.2.1.2.2.1.fr hI.2.1.2.2.1 (by omega) (fun k j a b => by show _ = M (1 + k) j; unfold cv; simp (disch := omega) only [jset_k, jset_j, jset_same, true_and, and_true]) (fun i a b => by simp (disch := omega) only [jset_k, jset_j, jset_same, true_and, and_true])
                                 · exact hI.2.2.1.2.2.2.1.fr (by omega) (fun k j a b => by show _ = M (1 + k) j; unfold cv; simp (disch := omega) only [jset_k, jset_j, jset_same, true_and, and_true]) (fun i a b => by simp (disch := omega) only [jset_k, jset_j, jset_same, true_and, and_true])
                                 · intro q h0 h1
                                   simp (disch := omega) only [jset_k, jset_j, jset_same, true_and, and_true] at h1
                                   simp only [cv1, Int.reduceAdd]
                                   have h := (hC.pers h0 h1).1
                                   by_cases e : q = person
                                   · subst e
                                     simp (disch := omega) only [jset_k, jset_j, jset_same, true_and, and_true]
                                     omega
                                   · simp (disch := omega) only [jset_k, jset_j, jset_same, true_and, and_true]
                                     exact h
                                 · exact hI.2.2.1.2.2.2.2.2.1.fr (by omega) (fun k j a b => by show _ = M (1 + k) j; unfold cv; simp (disch := omega) only [jset_k, jset_j, jset_same, true_and, and_true]) (fun i a b => by simp (disch := omega) only [jset_k, jset_j, jset_same, true_and, and_true]) (fun i a b => by simp (disch := omega) only [jset_k, jset_j, jset_same, true_and, and_true])
                                 · exact hI.2.2.1.2.2.2.2.2.2.1.fr (by omega) (fun k j a b => by show _ = M (1 + k) j; unfold cv; simp (disch := omega) only [jset_k, jset_j, jset_same, true_and, and_true]) (fun i a b => by simp (disch := omega) only [jset_k, jset_j, jset_same, true_and, and_true]) (fun i a b => by simp (disch := omega) only [jset_k, jset_j, jset_same, true_and, and_true])
                                 · exact hI.2.2.1.2.2.2.2.2.2.2.1.fr (by omega) (fun k j a b => by show _ = M (1 + k) j; unfold cv; simp (disch := omega) only [jset_k, jset_j, jset_same, true_and, and_true]) (fun i a b => by simp (disch := omega) only [jset_k, jset_j, jset_same, true_and, and_true])
                                 · exact hI.2.2.1.2.2.2.2.2.2.2.2.1.fr (fun k j a b => by show _ = M (1 + k) j; unfold cv; simp (disch := omega) only [jset_k, jset_j, jset_same, true_and, and_true]) (fun i a b => by simp (disch := omega) only [jset_k, jset_j, jset_same, true_and, and_true])
                                 · exact hI.2.2.1.2.2.2.2.2.2.2.2.2.1.fr (fun k j a b => by show _ = M (1 + k) j; unfold cv; simp (disch := omega) only [jset_k, jset_j, jset_same, true_and, and_true]) (fun i a b => by simp (disch := omega) only [jset_k, jset_j, jset_same, true_and, and_true])
                                 · exact hI.2.2.1.2.2.2.2.2.2.2.2.2.2.1.fr (by omega) (fun k j a b => by show _ = M (1 + k) j; unfold cv; simp (disch := omega) only [jset_k, jset_j, jset_same, true_and, and_true]) (fun i a b => by simp (disch := omega) only [jset_k, jset_j, jset_same, true_and, and_true])
                                 · exact hI.2.2.1.2.2.2.2.2.2.2.2.2.2.2.fr hI.2.1.2.2.2.2.2.2.2.2.2.2 (fun k j a b => by show _ = M (1 + k) j; unfold cv; simp (disch := omega) only [jset_k, jset_j, jset_same, true_and, and_true]) (fun i a b => by simp (disch := omega) only [jset_k, jset_j, jset_same, true_and, and_true])))
                    · dsimp only [jpush]
                      (try simp (disch := omega) only [jset_k, jset_j, jset_same, true_and, and_true] at w30)
                      first
                       | (exfalso; omega)
                       | (skip
                          refine e_if_ne 36 39 dX12_suit_33 (by decide) (by decide) rfl (fun h => absurd h (by decide)) (fun _ => ?_)
                          refine e_bipush 38 dX12_suit_36 (by decide) rfl ?_
                          refine e_iret dX12_suit_38 ?_
                          first
                            | (exact ⟨by omega, hI⟩)
                            | (exfalso; omega)
                            | (refine ⟨by omega, ?_⟩
                               refine hI.live ?_ ?_ ?_
                               · repeat (first | exact Live.rf | refine Live.c ?_ (by omega) | refine Live.r ?_ (by omega) | refine Live.s ?_ (by omega))
                               · refine ⟨?_, ?_, ?_, ?_, ?_, ?_, ?_, ?_, ?_, ?_, ?_⟩
                                 · exact hI.2.1.1.fr (fun i hi => by simp (disch := omega) only [jset_k, jset_j, jset_same, true_and, and_true])
                                 · exact hI.2.1.2.1.fr (fun i a b => by simp (disch := omega) only [jset_k, jset_j, jset_same, true_and, and_true])
                                 · exact hI.2.1.2.2.1.fr (fun i a b => by simp (disch := omega) only [jset_k, jset_j, jset_same, true_and, and_true])
                                 · exact hI.2.1.2.2.2.1.fr (by omega) (fun i a b => by simp (disch := omega) only [jset_k, jset_j, jset_same, true_and, and_true])
                                 · intro q h0 h1
                                   simp (disch := omega) only [jset_k, jset_j, jset_same, true_and, and_true] at h1
                                   have h := hI.2.1.2.2.2.2.1 q h0 h1
                                   by_cases e : q = person
                                   · subst e
                                     simp (disch := omega) only [jset_k, jset_j, jset_same, true_and, and_true]
                                     omega
                                   · simp (disch := omega) only [jset_k, jset_j, jset_same, true_and, and_true]
                                     exact h
                                 · exact hI.2.1.2.2.2.2.2.1.fr (by omega) (fun i a b => by simp (disch := omega) only [jset_k, jset_j, jset_same, true_and, and_true]) (fun i a b => by simp (disch := omega) only [jset_k, jset_j, jset_same, true_and, and_true]) (by simp (disch := omega) only [jset_k, jset_j, jset_same, true_and, and_true]; omega)
                                 · exact hI.2.1.2.2.2.2.2.2.1.fr (by omega) (by simp (disch := omega) only [jset_k, jset_j, jset_same, true_and, and_true]) (fun i a b => by simp (disch := omega) only [jset_k, jset_j, jset_same, true_and, and_true])
                                 · exact hI.2.1.2.2.2.2.2.2.2.1.fr (by omega) (fun i a b => by simp (disch := omega) only [jset_k, jset_j, jset_same, true_and, and_true]) (fun i a b => by simp (disch := omega) only [jset_k, jset_j, jset_same, true_and, and_true]) (by simp (disch := omega) only [jset_k, jset_j, jset_same, true_and, and_true]; omega)
                                 · exact hI.2.1.2.2.2.2.2.2.2.2.1.fr (by omega) (fun i a b => by simp (disch := omega) only [jset_k, jset_j, jset_same, true_and, and_true])
                                 · exact hI.2.1.2.2.2.2.2.2.2.2.2.1.fr (fun i a b => by simp (disch := omega) only [jset_k, jset_j, jset_same, true_and, and_true])
                                 · exact hI.2.1.2.2.2.2.2.2.2.2.2.2.fr (fun i a b => by simp (disch := omega) only [jset_k, jset_j, jset_same, true_and, and_true])
                               · refine ⟨?_, ?_, ?_, ?_, ?_, ?_, ?_, ?_, ?_, ?_, ?_, ?_⟩
                                 · exact hI.2.2.1.1.fr (fun j => by show _ = M (1 + 0) j; unfold cv; simp (disch := omega) only [jset_k, jset_j, jset_same, true_and, and_true]) (fun i hi => by simp (disch := omega) only [jset_k, jset_j, jset_same, true_and, and_true])
                                 · exact hI.2.2.1.2.1.fr hI.2.1.2.1 (by omega) (fun k j a b => by show _ = M (1 + k) j; unfold cv; simp (disch := omega) only [jset_k, jset_j, jset_same, true_and, and_true]) (fun i a b => by simp (disch := omega) only [jset_k, jset_j, jset_same, true_and, and_true])
                                 · exact hI.2.2.1.2.2.1.fr hI.2.1.2.2.1 (by omega) (fun k j a b => by show _ = M (1 + k) j; unfold cv; simp (disch := omega) only [jset_k, jset_j, jset_same, true_and, and_true]) (fun i a b => by simp (disch := omega) only [jset_k, jset_j, jset_same, true_and, and_true])
                                 · exact hI.2.2.1.2.2.2.1.fr (by omega) (fun k j a b => by show _ = M (1 + k) j; unfold cv; simp (disch := omega) only [jset_k, jset_j, jset_same, true_and, and_true]) (fun i a b => by simp (disch := omega) only [jset_k, jset_j, jset_same, true_and, and_true])
                                 · intro q h0 h1
                                   simp (disch := omega) only [jset_k, jset_j, jset_same, true_and, and_true] at h1
                                   simp only [cv1, Int.reduceAdd]
                                   have h := (hC.pers h0 h1).1
                                   by_cases e : q = person
                                   · subst e
                                     simp (disch := omega) only [jset_k, jset_j, jset_same, true_and, and_true]
                                     omega
                                   · simp (disch := omega) only [jset_k, jset_j, jset_same, true_and, and_true]
                                     exact h
                                 · exact hI.2.2.1.2.2.2.2.2.1.fr (by omega) (fun k j a b => by show _ = M (1 + k) j; unfold cv; simp (disch := omega) only [jset_k, jset_j, jset_same, true_and, and_true]) (fun i a b => by simp (disch := omega) only [jset_k, jset_j, jset_same, true_and, and_true]) (fun i a b => by simp (disch := omega) only [jset_k, jset_j, jset_same, true_and, and_true])
                                 · exact hI.2.2.1.2.2.2.2.2.2.1.fr (by omega) (fun k j a b => by show _ = M (1 + k) j; unfold cv; simp (disch := omega) only [jset_k, jset_j, jset_same, true_and, and_true]) (fun i a b => by simp (disch := omega) only [jset_k, jset_j, jset_same, true_and, and_true]) (fun i a b => by simp (disch := omega) only [jset_k, jset_j, jset_same, true_and, and_true])
                                 · exact hI.2.2.1.2.2.2.2.2.2.2.1.fr (by omega) (fun k j a b => by show _ = M (1 + k) j; unfold cv; simp (disch := omega) only [jset_k, jset_j, jset_same, true_and, and_true]) (fun i a b => by simp (disch := omega) only [jset_k, jset_j, jset_same, true_and, and_true])
                                 · exact hI.2.2.1.2.2.2.2.2.2.2.2.1.fr (fun k j a b => by show _ = M (1 + k) j; unfold cv; simp (disch := omega) only [jset_k, jset_j, jset_same, true_and, and_true]) (fun i a b => by simp (disch := omega) only [jset_k, jset_j, jset_same, true_and, and_true])
                                 · exact hI.2.2.1.2.2.2.2.2.2.2.2.2.1.fr (fun k j a b => by show _ = M (1 + k) j; unfold cv; simp (disch := omega) only [jset_k, jset_j, jset_same, true_and, and_true]) (fun i a b => by simp (disch := omega) only [jset_k, jset_j, jset_same, true_and, and_true])
                                 · exact hI.2.2.1.2.2.2.2.2.2.2.2.2.2.1.fr (by omega) (fun k j a b => by show _ = M (1 + k) j; unfold cv; simp (disch := omega) only [jset_k, jset_j, jset_same, true_and, and_true]) (fun i a b => by simp (disch := omega) only [jset_k, jset_j, jset_same, true_and, and_true])
                                 · exact hI.2.2.1.2.2.2.2.2.2.2.2.2.2.2.fr hI.2.1.2.2.2.2.2.2.2.2.2.2 (fun k j a b => by show _ = M (1 + k) j; unfold cv; simp (disch := omega) only [jset_k, jset_j, jset_same, true_and, and_true]) (fun i a b => by simp (disch := omega) only [jset_k, jset_j, jset_same, true_and, and_true]))))
              · dsimp only [jpush]
                (try simp (disch := omega) only [jset_k, jset_j, jset_same, true_and, and_true] at w15)
                first
                 | (exfalso; omega)
                 | (skip
                    refine e_if_ne 21 24 dX12_suit_18 (by decide) (by decide) rfl (fun h => absurd h (by decide)) (fun _ => ?_)
                    refine e_bipush 23 dX12_suit_21 (by decide) rfl ?_
                    refine e_iret dX12_suit_23 ?_
                    first
                      | (exact ⟨by omega, hI⟩)
                      | (exfalso; omega)
                      | (refine ⟨by omega, ?_⟩
                         refine hI.live ?_ ?_ ?_
                         · repeat (first | exact Live.rf | refine Live.c ?_ (by omega) | refine Live.r ?_ (by omega) | refine Live.s ?_ (by omega))
                         · refine ⟨?_, ?_, ?_, ?_, ?_, ?_, ?_, ?_, ?_, ?_, ?_⟩
                           · exact hI.2.1.1.fr (fun i hi => by simp (disch := omega) only [jset_k, jset_j, jset_same, true_and, and_true])
                           · exact hI.2.1.2.1.fr (fun i a b => by simp (disch := omega) only [jset_k, jset_j, jset_same, true_and, and_true])
                           · exact hI.2.1.2.2.1.fr (fun i a b => by simp (disch := omega) only [jset_k, jset_j, jset_same, true_and, and_true])
                           · exact hI.2.1.2.2.2.1.fr (by omega) (fun i a b => by simp (disch := omega) only [jset_k, jset_j, jset_same, true_and, and_true])
                           · intro q h0 h1
                             simp (disch := omega) only [jset_k, jset_j, jset_same, true_and, and_true] at h1
                             have h := hI.2.1.2.2.2.2.1 q h0 h1
                             by_cases e : q = person
                             · subst e
                               simp (disch := omega) only [jset_k, jset_j, jset_same, true_and, and_true]
                               omega
                             · simp (disch := omega) only [jset_k, jset_j, jset_same, true_and, and_true]
                               exact h
                           · exact hI.2.1.2.2.2.2.2.1.fr (by omega) (fun i a b => by simp (disch := omega) only [jset_k, jset_j, jset_same, true_and, and_true]) (fun i a b => by simp (disch := omega) only [jset_k, jset_j, jset_same, true_and, and_true]) (by simp (disch := omega) only [jset_k, jset_j, jset_same, true_and, and_true]; omega)
                           · exact hI.2.1.2.2.2.2.2.2.1.fr (by omega) (by simp (disch := omega) only [jset_k, jset_j, jset_same, true_and, and_true]) (fun i a b => by simp (disch := omega) only [jset_k, jset_j, jset_same, true_and, and_true])
                           · exact hI.2.1.2.2.2.2.2.2.2.1.fr (by omega) (fun i a b => by simp (disch := omega) only [jset_k, jset_j, jset_same, true_and, and_true]) (fun i a b => by simp (disch := omega) only [jset_k, jset_j, jset_same, true_and, and_true]) (by simp (disch := omega) only [jset_k, jset_j, jset_same, true_and, and_true]; omega)
                           · exact hI.2.1.2.2.2.2.2.2.2.2.1.fr (by omega) (fun i a b => by simp (disch := omega) only [jset_k, jset_j, jset_same, true_and, and_true])
                           · exact hI.2.1.2.2.2.2.2.2.2.2.2.1.fr (fun i a b => by simp (disch := omega) only [jset_k, jset_j, jset_same, true_and, and_true])
                           · exact hI.2.1.2.2.2.2.2.2.2.2.2.2.fr (fun i a b => by simp (disch := omega) only [jset_k, jset_j, jset_same, true_and, and_true])
                         · refine ⟨?_, ?_, ?_, ?_, ?_, ?_, ?_, ?_, ?_, ?_, ?_, ?_⟩
                           · exact hI.2.2.1.1.fr (fun j => by show _ = M (1 + 0) j; unfold cv; simp (disch := omega) only [jset_k, jset_j, jset_same, true_and, and_true]) (fun i hi => by simp (disch := omega) only [jset_k, jset_j, jset_same, true_and, and_true])
                           · exact hI.2.2.1.2.1.fr hI.2.1.2.1 (by omega) (fun k j a b => by show _ = M (1 + k) j; unfold cv; simp (disch := omega) only [jset_k, jset_j, jset_same, true_and, and_true]) (fun i a b => by simp (disch := omega) only [jset_k, jset_j, jset_same, true_and, and_true])
                           · exact hI.2.2.1.2.2.1.fr hI.2.1.2.2.1 (by omega) (fun k j a b => by show _ = M (1 + k) j; unfold cv; simp (disch := omega) only [jset_k, jset_j, jset_same, true_and, and_true]) (fun i a b => by simp (disch := omega) only [jset_k, jset_j, jset_same, true_and, and_true])
                           · exact hI.2.2.1.2.2.2.1.fr (by omega) (fun k j a b => by show _ = M (1 + k) j; unfold cv; simp (disch := omega) only [jset_k, jset_j, jset_same, true_and, and_true]) (fun i a b => by simp (disch := omega) only [jset_k, jset_j, jset_same, true_and, and_true])
                           · intro q h0 h1
                             simp (disch := omega) only [jset_k, jset_j, jset_same, true_and, and_true] at h1
                             simp only [cv1, Int.reduceAdd]
                             have h := (hC.pers h0 h1).1
                             by_cases e : q = person
                             · subst e
                               simp (disch := omega) only [jset_k, jset_j, jset_same, true_and, and_true]
                               omega
                             · simp (disch := omega) only [jset_k, jset_j, jset_same, true_and, and_true]
                               exact h
                           · exact hI.2.2.1.2.2.2.2.2.1.fr (by omega) (fun k j a b => by show _ = M (1 + k) j; unfold cv; simp (disch := omega) only [jset_k, jset_j, jset_same, true_and, and_true]) (fun i a b => by simp (disch := omega) only [jset_k, jset_j, jset_same, true_and, and_true]) (fun i a b => by simp (disch := omega) only [jset_k, jset_j, jset_same, true_and, and_true])
                           · exact hI.2.2.1.2.2.2.2.2.2.1.fr (by omega) (fun k j a b => by show _ = M (1 + k) j; unfold cv; simp (disch := omega) only [jset_k, jset_j, jset_same, true_and, and_true]) (fun i a b => by simp (disch := omega) only [jset_k, jset_j, jset_same, true_and, and_true]) (fun i a b => by simp (disch := omega) only [jset_k, jset_j, jset_same, true_and, and_true])
                           · exact hI.2.2.1.2.2.2.2.2.2.2.1.fr (by omega) (fun k j a b => by show _ = M (1 + k) j; unfold cv; simp (disch := omega) only [jset_k, jset_j, jset_same, true_and, and_true]) (fun i a b => by simp (disch := omega) only [jset_k, jset_j, jset_same, true_and, and_true])
                           · exact hI.2.2.1.2.2.2.2.2.2.2.2.1.fr (fun k j a b => by show _ = M (1 + k) j; unfold cv; simp (disch := omega) only [jset_k, jset_j, jset_same, true_and, and_true]) (fun i a b => by simp (disch := omega) only [jset_k, jset_j, jset_same, true_and, and_true])
                           · exact hI.2.2.1.2.2.2.2.2.2.2.2.2.1.fr (fun k j a b => by show _ = M (1 + k) j; unfold cv; simp (disch := omega) only [jset_k, jset_j, jset_same, true_and, and_true]) (fun i a b => by simp (disch := omega) only [jset_k, jset_j, jset_same, true_and, and_true])
                           · exact hI.2.2.1.2.2.2.2.2.2.2.2.2.2.1.fr (by omega) (fun k j a b => by show _ = M (1 + k) j; unfold cv; simp (disch := omega) only [jset_k, jset_j, jset_same, true_and, and_true]) (fun i a b => by simp (disch := omega) only [jset_k, jset_j, jset_same, true_and, and_true])
                           · exact hI.2.2.1.2.2.2.2.2.2.2.2.2.2.2.fr hI.2.1.2.2.2.2.2.2.2.2.2.2 (fun k j a b => by show _ = M (1 + k) j; unfold cv; simp (disch := omega) only [jset_k, jset_j, jset_same, true_and, and_true]) (fun i a b => by simp (disch := omega) only [jset_k, jset_j, jset_same, true_and, and_true]))))
        · dsimp only [jpush]
          (try simp (disch := omega) only [jset_k, jset_j, jset_same, true_and, and_true] at w7)
          first
           | (exfalso; omega)
           | (skip
              refine e_if_eq 13 21 dX12_suit_10 (by decide) (by decide) rfl (fun _ => ?_) (fun h => absurd h (by decide))
              refine e_bipush 23 dX12_suit_21 (by decide) rfl ?_
              refine e_iret dX12_suit_23 ?_
              first
                | (exact ⟨by omega, hI⟩)
                | (exfalso; omega)
                | (refine ⟨by omega, ?_⟩
                   refine hI.live ?_ ?_ ?_
                   · repeat (first | exact Live.rf | refine Live.c ?_ (by omega) | refine Live.r ?_ (by omega) | refine Live.s ?_ (by omega))
                   · refine ⟨?_, ?_, ?_, ?_, ?_, ?_, ?_, ?_, ?_, ?_, ?_⟩
                     · exact hI.2.1.1.fr (fun i hi => by simp (disch := omega) only [jset_k, jset_j, jset_same, true_and, and_true])
                     · exact hI.2.1.2.1.fr (fun i a b => by simp (disch := omega) only [jset_k, jset_j, jset_same, true_and, and_true])
                     · exact hI.2.1.2.2.1.fr (fun i a b => by simp (disch := omega) only [jset_k, jset_j, jset_same, true_and, and_true])
                     · exact hI.2.1.2.2.2.1.fr (by omega) (fun i a b => by simp (disch := omega) only [jset_k, jset_j, jset_same, true_and, and_true])
                     · intro q h0 h1
                       simp (disch := omega) only [jset_k, jset_j, jset_same, true_and, and_true] at h1
                       have h := hI.2.1.2.2.2.2.1 q h0 h1
                       by_cases e : q = person
                       · subst e
                         simp (disch := omega) only [jset_k, jset_j, jset_same, true_and, and_true]
                         omega
                       · simp (disch := omega) only [jset_k, jset_j, jset_same, true_and, and_true]
                         exact h
                     · exact hI.2.1.2.2.2.2.2.1.fr (by omega) (fun i a b => by simp (disch := omega) only [jset_k, jset_j, jset_same, true_and, and_true]) (fun i a b => by simp (disch := omega) only [jset_k, jset_j, jset_same, true_and, and_true]) (by simp (disch := omega) only [jset_k, jset_j, jset_same, true_and, and_true]; omega)
                     · exact hI.2.1.2.2.2.2.2.2.1.fr (by omega) (by simp (disch := omega) only [jset_k, jset_j, jset_same, true_and, and_true]) (fun i a b => by simp (disch := omega) only [jset_k, jset_j, jset_same, true_and, and_true])
                     · exact hI.2.1.2.2.2.2.2.2.2.1.fr (by omega) (fun i a b => by simp (disch := omega) only [jset_k, jset_j, jset_same, true_and, and_true]) (fun i a b => by simp (disch := omega) only [jset_k, jset_j, jset_same, true_and, and_true]) (by simp (disch := omega) only [jset_k, jset_j, jset_same, true_and, and_true]; omega)
                     · exact hI.2.1.2.2.2.2.2.2.2.2.1.fr (by omega) (fun i a b => by simp (disch := omega) only [jset_k, jset_j, jset_same, true_and, and_true])
                     · exact hI.2.1.2.2.2.2.2.2.2.2.2.1.fr (fun i a b => by simp (disch := omega) only [jset_k, jset_j, jset_same, true_and, and_true])
                     · exact hI.2.1.2.2.2.2.2.2.2.2.2.2.fr (fun i a b => by simp (disch := omega) only [jset_k, jset_j, jset_same, true_and, and_true])
                   · refine ⟨?_, ?_, ?_, ?_, ?_, ?_, ?_, ?_, ?_, ?_, ?_, ?_⟩
                     · exact hI.2.2.1.1.fr (fun j => by show _ = M (1 + 0) j; unfold cv; simp (disch := omega) only [jset_k, jset_j, jset_same, true_and, and_true]) (fun i hi => by simp (disch := omega) only [jset_k, jset_j, jset_same, true_and, and_true])
                     · exact hI.2.2.1.2.1.fr hI.2.1.2.1 (by omega) (fun k j a b => by show _ = M (1 + k) j; unfold cv; simp (disch := omega) only [jset_k, jset_j, jset_same, true_and, and_true]) (fun i a b => by simp (disch := omega) only [jset_k, jset_j, jset_same, true_and, and_true])
                     · exact hI.2.2.1.2.2.1.fr hI.2.1.2.2.1 (by omega) (fun k j a b => by show _ = M (1 + k) j; unfold cv; simp (disch := omega) only [jset_k, jset_j, jset_same, true_and, and_true]) (fun i a b => by simp (disch := omega) only [jset_k, jset_j, jset_same, true_and, and_true])
                     · exact hI.2.2.1.2.2.2.1.fr (by omega) (fun k j a b => by show _ = M (1 + k) j; unfold cv; simp (disch := omega) only [jset_k, jset_j, jset_same, true_and, and_true]) (fun i a b => by simp (disch := omega) only [jset_k, jset_j, jset_same, true_and, and_true])
                     · intro q h0 h1
                       simp (disch := omega) only [jset_k, jset_j, jset_same, true_and, and_true] at h1
                       simp only [cv1, Int.reduceAdd]
                       have h := (hC.pers h0 h1).1
                       by_cases e : q = person
                       · subst e
                         simp (disch := omega) only [jset_k, jset_j, jset_same, true_and, and_true]
                         omega
                       · simp (disch := omega) only [jset_k, jset_j, jset_same, true_and, and_true]
                         exact h
                     · exact hI.2.2.1.2.2.2.2.2.1.fr (by omega) (fun k j a b => by show _ = M (1 + k) j; unfold cv; simp (disch := omega) only [jset_k, jset_j, jset_same, true_and, and_true]) (fun i a b => by simp (disch := omega) only [jset_k, jset_j, jset_same, true_and, and_true]) (fun i a b => by simp (disch := omega) only [jset_k, jset_j, jset_same, true_and, and_true])
                     · exact hI.2.2.1.2.2.2.2.2.2.1.fr (by omega) (fun k j a b => by show _ = M (1 + k) j; unfold cv; simp (disch := omega) only [jset_k, jset_j, jset_same, true_and, and_true]) (fun i a b => by simp (disch := omega) only [jset_k, jset_j, jset_same, true_and, and_true]) (fun i a b => by simp (disch := omega) only [jset_k, jset_j, jset_same, true_and, and_true])
                     · exact hI.2.2.1.2.2.2.2.2.2.2.1.fr (by omega) (fun k j a b => by show _ = M (1 + k) j; unfold cv; simp (disch := omega) only [jset_k, jset_j, jset_same, true_and, and_true]) (fun i a b => by simp (disch := omega) only [jset_k, jset_j, jset_same, true_and, and_true])
                     · exact hI.2.2.1.2.2.2.2.2.2.2.2.1.fr (fun k j a b => by show _ = M (1 + k) j; unfold cv; simp (disch := omega) only [jset_k, jset_j, jset_same, true_and, and_true]) (fun i a b => by simp (disch := omega) only [jset_k, jset_j, jset_same, true_and, and_true])
                     · exact hI.2.2.1.2.2.2.2.2.2.2.2.2.1.fr (fun k j a b => by show _ = M (1 + k) j; unfold cv; simp (disch := omega) only [jset_k, jset_j, jset_same, true_and, and_true]) (fun i a b => by simp (disch := omega) only [jset_k, jset_j, jset_same, true_and, and_true])
                     · exact hI.2.2.1.2.2.2.2.2.2.2.2.2.2.1.fr (by omega) (fun k j a b => by show _ = M (1 + k) j; unfold cv; simp (disch := omega) only [jset_k, jset_j, jset_same, true_and, and_true]) (fun i a b => by simp (disch := omega) only [jset_k, jset_j, jset_same, true_and, and_true])
                     · exact hI.2.2.1.2.2.2.2.2.2.2.2.2.2.2.fr hI.2.1.2.2.2.2.2.2.2.2.2.2 (fun k j a b => by show _ = M (1 + k) j; unfold cv; simp (disch := omega) only [jset_k, jset_j, jset_same, true_and, and_true]) (fun i a b => by simp (disch := omega) only [jset_k, jset_j, jset_same, true_and, and_true])))
      · dsimp only [jpush]
        refine e_if_ne 32 35 dX11_suit_29 (by decide) (by decide) rfl (fun h => absurd h (by decide)) (fun _ => ?_)
        refine e_bipush 34 dX11_suit_32 (by decide) rfl ?_
        refine e_iret dX11_suit_34 ?_
        refine jCt_of mt_yX12_suit (Nat.le_of_ble_eq_true rfl) (fun X2 => ?_)
        refine e_aload_n (i := 0) 1 dX12_suit_0 rfl rfl rfl ?_
        refine e_iconst 2 dX12_suit_1 rfl ?_
        refine e_put0 (j := 0) 5 fl_12_1 dX12_suit_2 at_928 rfl rfl rfl (by decide) hI.1 rfl ?_
        refine e_aload_n (i := 0) 6 dX12_suit_5 rfl rfl rfl ?_
        refine e_iload_n (i := 1) 7 dX12_suit_6 rfl rfl rfl ?_
        refine e_callV 10 mt_yX12_isPerson mv_yX12_isPerson wd_1506 (by decide) dX12_suit_7 at_928 jc_12 rfl rfl rfl (Nat.le_of_ble_eq_true rfl) (jroom (by decide)) rfl (m_isPerson (by omega) (fun w7 => ?_) (fun w7 => ?_))
        · dsimp only [jpush]
          first
           | (exfalso; omega)
           | (skip
              refine e_if_eq 13 21 dX12_suit_10 (by decide) (by decide) rfl (fun h => absurd h (by decide)) (fun _ => ?_)
              refine e_aload_n (i := 0) 14 dX12_suit_13 rfl rfl rfl ?_
              refine e_iload_n (i := 2) 15 dX12_suit_14 rfl rfl rfl ?_
              refine e_callV 18 mt_yX12_isKind mv_yX12_isKind wd_1619 (by decide) dX12_suit_15 at_928 jc_12 rfl rfl rfl (Nat.le_of_ble_eq_true rfl) (jroom (by decide)) rfl (m_isKind (by omega) (fun w15 => ?_) (fun w15 => ?_))
              · dsimp only [jpush]
                first
                 | (exfalso; omega)
                 | (skip
                    refine e_if_ne 21 24 dX12_suit_18 (by decide) (by decide) rfl (fun _ => ?_) (fun h => absurd h (by decide))
                    refine e_iload_n (i := 3) 25 dX12_suit_24 rfl rfl rfl ?_
                    refine e_i2l 26 dX12_suit_25 (by omega) rfl ?_
                    refine e_lconst1 27 dX12_suit_26 rfl ?_
                    refine e_ldc2 (z := (999)) 30 (ix := 198) wd_1482 (by decide) dX12_suit_27 rfl ?_
                    refine e_callS 33 mt_yX12_within ms_yX12_within wd_1390 (by decide) dX12_suit_30 rfl rfl (Nat.le_of_ble_eq_true rfl) (jroom (by decide)) rfl (m_within (by omega) (by omega) (by omega) (fun w30 => ?_) (fun w30 => ?_))
                    · dsimp only [jpush]
                      first
                       | (exfalso; omega)
                       | (skip
                          refine e_if_ne 36 39 dX12_suit_33 (by decide) (by decide) rfl (fun _ => ?_) (fun h => absurd h (by decide))
                          refine e_aload_n (i := 0) 40 dX12_suit_39 rfl rfl rfl ?_
                          refine e_getr (j := 1) 43 fl_12_13 dX12_suit_40 at_928 rfl rfl tp_928_1 rfl ?_
                          refine e_sipush 46 dX12_suit_43 (by decide) rfl ?_
                          refine e_iload_n (i := 1) 47 dX12_suit_46 rfl rfl rfl ?_
                          refine e_iadd 48 dX12_suit_47 rfl ?_
                          refine e_iload_n (i := 3) 49 dX12_suit_48 rfl rfl rfl ?_
                          refine e_iast 50 dX12_suit_49 ar_929 (by omega) (by omega) (by omega) rfl ?_
                          refine e_iconst 51 dX12_suit_50 rfl ?_
                          refine e_iret dX12_suit_51 ?_
                          first
                            | (exact ⟨by omega, hI⟩)
                            | (exfalso; omega)
                            | (refine ⟨by omega, ?_⟩
                               refine hI.live ?_ ?_ ?_
                               · repeat (first | exact Live.rf | refine Live.c ?_ (by omega) | refine Live.r ?_ (by omega) | refine Live.s ?_ (by omega))
                               · refine ⟨?_, ?_, ?_, ?_, ?_, ?_, ?_, ?_, ?_, ?_, ?_⟩
                                 · exact hI.2.1.1.fr (fun i hi => by simp (disch := omega) only [jset_k, jset_j, jset_same, true_and, and_true])
                                 · exact hI.2.1.2.1.fr (fun i a b => by simp (disch := omega) only [jset_k, jset_j, jset_same, true_and, and_true])
                                 · exact hI.2.1.2.2.1.fr (fun i a b => by simp (disch := omega) only [jset_k, jset_j, jset_same, true_and, and_true])
                                 · exact hI.2.1.2.2.2.1.fr (by omega) (fun i a b => by simp (disch := omega) only [jset_k, jset_j, jset_same, true_and, and_true])
                                 · intro q h0 h1
                                   simp (disch := omega) only [jset_k, jset_j, jset_same, true_and, and_true] at h1
                                   have h := hI.2.1.2.2.2.2.1 q h0 h1
                                   by_cases e : q = person
                                   · subst e
                                     simp (disch := omega) only [jset_k, jset_j, jset_same, true_and, and_true]
                                     omega
                                   · simp (disch := omega) only [jset_k, jset_j, jset_same, true_and, and_true]
                                     exact h
                                 · exact hI.2.1.2.2.2.2.2.1.fr (by omega) (fun i a b => by simp (disch := omega) only [jset_k, jset_j, jset_same, true_and, and_true]) (fun i a b => by simp (disch := omega) only [jset_k, jset_j, jset_same, true_and, and_true]) (by simp (disch := omega) only [jset_k, jset_j, jset_same, true_and, and_true]; omega)
                                 · exact hI.2.1.2.2.2.2.2.2.1.fr (by omega) (by simp (disch := omega) only [jset_k, jset_j, jset_same, true_and, and_true]) (fun i a b => by simp (disch := omega) only [jset_k, jset_j, jset_same, true_and, and_true])
                                 · exact hI.2.1.2.2.2.2.2.2.2.1.fr (by omega) (fun i a b => by simp (disch := omega) only [jset_k, jset_j, jset_same, true_and, and_true]) (fun i a b => by simp (disch := omega) only [jset_k, jset_j, jset_same, true_and, and_true]) (by simp (disch := omega) only [jset_k, jset_j, jset_same, true_and, and_true]; omega)
                                 · exact hI.2.1.2.2.2.2.2.2.2.2.1.fr (by omega) (fun i a b => by simp (disch := omega) only [jset_k, jset_j, jset_same, true_and, and_true])
                                 · exact hI.2.1.2.2.2.2.2.2.2.2.2.1.fr (fun i a b => by simp (disch := omega) only [jset_k, jset_j, jset_same, true_and, and_true])
                                 · exact hI.2.1.2.2.2.2.2.2.2.2.2.2.fr (fun i a b => by simp (disch := omega) only [jset_k, jset_j, jset_same, true_and, and_true])
                               · refine ⟨?_, ?_, ?_, ?_, ?_, ?_, ?_, ?_, ?_, ?_, ?_, ?_⟩
                                 · exact hI.2.2.1.1.fr (fun j => by show _ = M (1 + 0) j; unfold cv; simp (disch := omega) only [jset_k, jset_j, jset_same, true_and, and_true]) (fun i hi => by simp (disch := omega) only [jset_k, jset_j, jset_same, true_and, and_true])
                                 · exact hI.2.2.1.2.1.fr hI.2.1.2.1 (by omega) (fun k j a b => by show _ = M (1 + k) j; unfold cv; simp (disch := omega) only [jset_k, jset_j, jset_same, true_and, and_true]) (fun i a b => by simp (disch := omega) only [jset_k, jset_j, jset_same, true_and, and_true])
                                 · exact hI.2.2.1.2.2.1.fr hI.2.1.2.2.1 (by omega) (fun k j a b => by show _ = M (1 + k) j; unfold cv; simp (disch := omega) only [jset_k, jset_j, jset_same, true_and, and_true]) (fun i a b => by simp (disch := omega) only [jset_k, jset_j, jset_same, true_and, and_true])
                                 · exact hI.2.2.1.2.2.2.1.fr (by omega) (fun k j a b => by show _ = M (1 + k) j; unfold cv; simp (disch := omega) only [jset_k, jset_j, jset_same, true_and, and_true]) (fun i a b => by simp (disch := omega) only [jset_k, jset_j, jset_same, true_and, and_true])
                                 · intro q h0 h1
                                   simp (disch := omega) only [jset_k, jset_j, jset_same, true_and, and_true] at h1
                                   simp only [cv1, Int.reduceAdd]
                                   have h := (hC.pers h0 h1).1
                                   by_cases e : q = person
                                   · subst e
                                     simp (disch := omega) only [jset_k, jset_j, jset_same, true_and, and_true]
                                     omega
                                   · simp (disch := omega) only [jset_k, jset_j, jset_same, true_and, and_true]
                                     exact h
                                 · exact hI.2.2.1.2.2.2.2.2.1.fr (by omega) (fun k j a b => by show _ = M (1 + k) j; unfold cv; simp (disch := omega) only [jset_k, jset_j, jset_same, true_and, and_true]) (fun i a b => by simp (disch := omega) only [jset_k, jset_j, jset_same, true_and, and_true]) (fun i a b => by simp (disch := omega) only [jset_k, jset_j, jset_same, true_and, and_true])
                                 · exact hI.2.2.1.2.2.2.2.2.2.1.fr (by omega) (fun k j a b => by show _ = M (1 + k) j; unfold cv; simp (disch := omega) only [jset_k, jset_j, jset_same, true_and, and_true]) (fun i a b => by simp (disch := omega) only [jset_k, jset_j, jset_same, true_and, and_true]) (fun i a b => by simp (disch := omega) only [jset_k, jset_j, jset_same, true_and, and_true])
                                 · exact hI.2.2.1.2.2.2.2.2.2.2.1.fr (by omega) (fun k j a b => by show _ = M (1 + k) j; unfold cv; simp (disch := omega) only [jset_k, jset_j, jset_same, true_and, and_true]) (fun i a b => by simp (disch := omega) only [jset_k, jset_j, jset_same, true_and, and_true])
                                 · exact hI.2.2.1.2.2.2.2.2.2.2.2.1.fr (fun k j a b => by show _ = M (1 + k) j; unfold cv; simp (disch := omega) only [jset_k, jset_j, jset_same, true_and, and_true]) (fun i a b => by simp (disch := omega) only [jset_k, jset_j, jset_same, true_and, and_true])
                                 · exact hI.2.2.1.2.2.2.2.2.2.2.2.2.1.fr (fun k j a b => by show _ = M (1 + k) j; unfold cv; simp (disch := omega) only [jset_k, jset_j, jset_same, true_and, and_true]) (fun i a b => by simp (disch := omega) only [jset_k, jset_j, jset_same, true_and, and_true])
                                 · exact hI.2.2.1.2.2.2.2.2.2.2.2.2.2.1.fr (by omega) (fun k j a b => by show _ = M (1 + k) j; unfold cv; simp (disch := omega) only [jset_k, jset_j, jset_same, true_and, and_true]) (fun i a b => by simp (disch := omega) only [jset_k, jset_j, jset_same, true_and, and_true])
                                 · exact hI.2.2.1.2.2.2.2.2.2.2.2.2.2.2.fr hI.2.1.2.2.2.2.2.2.2.2.2.2 (fun k j a b => by show _ = M (1 + k) j; unfold cv; simp (disch := omega) only [jset_k, jset_j, jset_same, true_and, and_true]) (fun i a b => by simp (disch := omega) only [jset_k, jset_j, jset_same, true_and, and_true])))
                    · dsimp only [jpush]
                      first
                       | (exfalso; omega)
                       | (skip
                          refine e_if_ne 36 39 dX12_suit_33 (by decide) (by decide) rfl (fun h => absurd h (by decide)) (fun _ => ?_)
                          refine e_bipush 38 dX12_suit_36 (by decide) rfl ?_
                          refine e_iret dX12_suit_38 ?_
                          first
                            | (exact ⟨by omega, hI⟩)
                            | (exfalso; omega)))
              · dsimp only [jpush]
                first
                 | (exfalso; omega)
                 | (skip
                    refine e_if_ne 21 24 dX12_suit_18 (by decide) (by decide) rfl (fun h => absurd h (by decide)) (fun _ => ?_)
                    refine e_bipush 23 dX12_suit_21 (by decide) rfl ?_
                    refine e_iret dX12_suit_23 ?_
                    first
                      | (exact ⟨by omega, hI⟩)
                      | (exfalso; omega)))
        · dsimp only [jpush]
          first
           | (exfalso; omega)
           | (skip
              refine e_if_eq 13 21 dX12_suit_10 (by decide) (by decide) rfl (fun _ => ?_) (fun h => absurd h (by decide))
              refine e_bipush 23 dX12_suit_21 (by decide) rfl ?_
              refine e_iret dX12_suit_23 ?_
              first
                | (exact ⟨by omega, hI⟩)
                | (exfalso; omega))
    · dsimp only [jpush]
      refine e_if_ne 22 25 dX11_suit_19 (by decide) (by decide) rfl (fun h => absurd h (by decide)) (fun _ => ?_)
      refine e_bipush 24 dX11_suit_22 (by decide) rfl ?_
      refine e_iret dX11_suit_24 ?_
      refine jCt_of mt_yX12_suit (Nat.le_of_ble_eq_true rfl) (fun X2 => ?_)
      refine e_aload_n (i := 0) 1 dX12_suit_0 rfl rfl rfl ?_
      refine e_iconst 2 dX12_suit_1 rfl ?_
      refine e_put0 (j := 0) 5 fl_12_1 dX12_suit_2 at_928 rfl rfl rfl (by decide) hI.1 rfl ?_
      refine e_aload_n (i := 0) 6 dX12_suit_5 rfl rfl rfl ?_
      refine e_iload_n (i := 1) 7 dX12_suit_6 rfl rfl rfl ?_
      refine e_callV 10 mt_yX12_isPerson mv_yX12_isPerson wd_1506 (by decide) dX12_suit_7 at_928 jc_12 rfl rfl rfl (Nat.le_of_ble_eq_true rfl) (jroom (by decide)) rfl (m_isPerson (by omega) (fun w7 => ?_) (fun w7 => ?_))
      · dsimp only [jpush]
        first
         | (exfalso; omega)
         | (skip
            refine e_if_eq 13 21 dX12_suit_10 (by decide) (by decide) rfl (fun h => absurd h (by decide)) (fun _ => ?_)
            refine e_aload_n (i := 0) 14 dX12_suit_13 rfl rfl rfl ?_
            refine e_iload_n (i := 2) 15 dX12_suit_14 rfl rfl rfl ?_
            refine e_callV 18 mt_yX12_isKind mv_yX12_isKind wd_1619 (by decide) dX12_suit_15 at_928 jc_12 rfl rfl rfl (Nat.le_of_ble_eq_true rfl) (jroom (by decide)) rfl (m_isKind (by omega) (fun w15 => ?_) (fun w15 => ?_))
            · dsimp only [jpush]
              first
               | (exfalso; omega)
               | (skip
                  refine e_if_ne 21 24 dX12_suit_18 (by decide) (by decide) rfl (fun _ => ?_) (fun h => absurd h (by decide))
                  refine e_iload_n (i := 3) 25 dX12_suit_24 rfl rfl rfl ?_
                  refine e_i2l 26 dX12_suit_25 (by omega) rfl ?_
                  refine e_lconst1 27 dX12_suit_26 rfl ?_
                  refine e_ldc2 (z := (999)) 30 (ix := 198) wd_1482 (by decide) dX12_suit_27 rfl ?_
                  refine e_callS 33 mt_yX12_within ms_yX12_within wd_1390 (by decide) dX12_suit_30 rfl rfl (Nat.le_of_ble_eq_true rfl) (jroom (by decide)) rfl (m_within (by omega) (by omega) (by omega) (fun w30 => ?_) (fun w30 => ?_))
                  · dsimp only [jpush]
                    first
                     | (exfalso; omega)
                     | (skip
                        refine e_if_ne 36 39 dX12_suit_33 (by decide) (by decide) rfl (fun _ => ?_) (fun h => absurd h (by decide))
                        refine e_aload_n (i := 0) 40 dX12_suit_39 rfl rfl rfl ?_
                        refine e_getr (j := 1) 43 fl_12_13 dX12_suit_40 at_928 rfl rfl tp_928_1 rfl ?_
                        refine e_sipush 46 dX12_suit_43 (by decide) rfl ?_
                        refine e_iload_n (i := 1) 47 dX12_suit_46 rfl rfl rfl ?_
                        refine e_iadd 48 dX12_suit_47 rfl ?_
                        refine e_iload_n (i := 3) 49 dX12_suit_48 rfl rfl rfl ?_
                        refine e_iast 50 dX12_suit_49 ar_929 (by omega) (by omega) (by omega) rfl ?_
                        refine e_iconst 51 dX12_suit_50 rfl ?_
                        refine e_iret dX12_suit_51 ?_
                        first
                          | (exact ⟨by omega, hI⟩)
                          | (exfalso; omega)
                          | (refine ⟨by omega, ?_⟩
                             refine hI.live ?_ ?_ ?_
                             · repeat (first | exact Live.rf | refine Live.c ?_ (by omega) | refine Live.r ?_ (by omega) | refine Live.s ?_ (by omega))
                             · refine ⟨?_, ?_, ?_, ?_, ?_, ?_, ?_, ?_, ?_, ?_, ?_⟩
                               · exact hI.2.1.1.fr (fun i hi => by simp (disch := omega) only [jset_k, jset_j, jset_same, true_and, and_true])
                               · exact hI.2.1.2.1.fr (fun i a b => by simp (disch := omega) only [jset_k, jset_j, jset_same, true_and, and_true])
                               · exact hI.2.1.2.2.1.fr (fun i a b => by simp (disch := omega) only [jset_k, jset_j, jset_same, true_and, and_true])
                               · exact hI.2.1.2.2.2.1.fr (by omega) (fun i a b => by simp (disch := omega) only [jset_k, jset_j, jset_same, true_and, and_true])
                               · intro q h0 h1
                                 simp (disch := omega) only [jset_k, jset_j, jset_same, true_and, and_true] at h1
                                 have h := hI.2.1.2.2.2.2.1 q h0 h1
                                 by_cases e : q = person
                                 · subst e
                                   simp (disch := omega) only [jset_k, jset_j, jset_same, true_and, and_true]
                                   omega
                                 · simp (disch := omega) only [jset_k, jset_j, jset_same, true_and, and_true]
                                   exact h
                               · exact hI.2.1.2.2.2.2.2.1.fr (by omega) (fun i a b => by simp (disch := omega) only [jset_k, jset_j, jset_same, true_and, and_true]) (fun i a b => by simp (disch := omega) only [jset_k, jset_j, jset_same, true_and, and_true]) (by simp (disch := omega) only [jset_k, jset_j, jset_same, true_and, and_true]; omega)
                               · exact hI.2.1.2.2.2.2.2.2.1.fr (by omega) (by simp (disch := omega) only [jset_k, jset_j, jset_same, true_and, and_true]) (fun i a b => by simp (disch := omega) only [jset_k, jset_j, jset_same, true_and, and_true])
                               · exact hI.2.1.2.2.2.2.2.2.2.1.fr (by omega) (fun i a b => by simp (disch := omega) only [jset_k, jset_j, jset_same, true_and, and_true]) (fun i a b => by simp (disch := omega) only [jset_k, jset_j, jset_same, true_and, and_true]) (by simp (disch := omega) only [jset_k, jset_j, jset_same, true_and, and_true]; omega)
                               · exact hI.2.1.2.2.2.2.2.2.2.2.1.fr (by omega) (fun i a b => by simp (disch := omega) only [jset_k, jset_j, jset_same, true_and, and_true])
                               · exact hI.2.1.2.2.2.2.2.2.2.2.2.1.fr (fun i a b => by simp (disch := omega) only [jset_k, jset_j, jset_same, true_and, and_true])
                               · exact hI.2.1.2.2.2.2.2.2.2.2.2.2.fr (fun i a b => by simp (disch := omega) only [jset_k, jset_j, jset_same, true_and, and_true])
                             · refine ⟨?_, ?_, ?_, ?_, ?_, ?_, ?_, ?_, ?_, ?_, ?_, ?_⟩
                               · exact hI.2.2.1.1.fr (fun j => by show _ = M (1 + 0) j; unfold cv; simp (disch := omega) only [jset_k, jset_j, jset_same, true_and, and_true]) (fun i hi => by simp (disch := omega) only [jset_k, jset_j, jset_same, true_and, and_true])
                               · exact hI.2.2.1.2.1.fr hI.2.1.2.1 (by omega) (fun k j a b => by show _ = M (1 + k) j; unfold cv; simp (disch := omega) only [jset_k, jset_j, jset_same, true_and, and_true]) (fun i a b => by simp (disch := omega) only [jset_k, jset_j, jset_same, true_and, and_true])
                               · exact hI.2.2.1.2.2.1.fr hI.2.1.2.2.1 (by omega) (fun k j a b => by show _ = M (1 + k) j; unfold cv; simp (disch := omega) only [jset_k, jset_j, jset_same, true_and, and_true]) (fun i a b => by simp (disch := omega) only [jset_k, jset_j, jset_same, true_and, and_true])
                               · exact hI.2.2.1.2.2.2.1.fr (by omega) (fun k j a b => by show _ = M (1 + k) j; unfold cv; simp (disch := omega) only [jset_k, jset_j, jset_same, true_and, and_true]) (fun i a b => by simp (disch := omega) only [jset_k, jset_j, jset_same, true_and, and_true])
                               · intro q h0 h1
                                 simp (disch := omega) only [jset_k, jset_j, jset_same, true_and, and_true] at h1
                                 simp only [cv1, Int.reduceAdd]
                                 have h := (hC.pers h0 h1).1
                                 by_cases e : q = person
                                 · subst e
                                   simp (disch := omega) only [jset_k, jset_j, jset_same, true_and, and_true]
                                   omega
                                 · simp (disch := omega) only [jset_k, jset_j, jset_same, true_and, and_true]
                                   exact h
                               · exact hI.2.2.1.2.2.2.2.2.1.fr (by omega) (fun k j a b => by show _ = M (1 + k) j; unfold cv; simp (disch := omega) only [jset_k, jset_j, jset_same, true_and, and_true]) (fun i a b => by simp (disch := omega) only [jset_k, jset_j, jset_same, true_and, and_true]) (fun i a b => by simp (disch := omega) only [jset_k, jset_j, jset_same, true_and, and_true])
                               · exact hI.2.2.1.2.2.2.2.2.2.1.fr (by omega) (fun k j a b => by show _ = M (1 + k) j; unfold cv; simp (disch := omega) only [jset_k, jset_j, jset_same, true_and, and_true]) (fun i a b => by simp (disch := omega) only [jset_k, jset_j, jset_same, true_and, and_true]) (fun i a b => by simp (disch := omega) only [jset_k, jset_j, jset_same, true_and, and_true])
                               · exact hI.2.2.1.2.2.2.2.2.2.2.1.fr (by omega) (fun k j a b => by show _ = M (1 + k) j; unfold cv; simp (disch := omega) only [jset_k, jset_j, jset_same, true_and, and_true]) (fun i a b => by simp (disch := omega) only [jset_k, jset_j, jset_same, true_and, and_true])
                               · exact hI.2.2.1.2.2.2.2.2.2.2.2.1.fr (fun k j a b => by show _ = M (1 + k) j; unfold cv; simp (disch := omega) only [jset_k, jset_j, jset_same, true_and, and_true]) (fun i a b => by simp (disch := omega) only [jset_k, jset_j, jset_same, true_and, and_true])
                               · exact hI.2.2.1.2.2.2.2.2.2.2.2.2.1.fr (fun k j a b => by show _ = M (1 + k) j; unfold cv; simp (disch := omega) only [jset_k, jset_j, jset_same, true_and, and_true]) (fun i a b => by simp (disch := omega) only [jset_k, jset_j, jset_same, true_and, and_true])
                               · exact hI.2.2.1.2.2.2.2.2.2.2.2.2.2.1.fr (by omega) (fun k j a b => by show _ = M (1 + k) j; unfold cv; simp (disch := omega) only [jset_k, jset_j, jset_same, true_and, and_true]) (fun i a b => by simp (disch := omega) only [jset_k, jset_j, jset_same, true_and, and_true])
                               · exact hI.2.2.1.2.2.2.2.2.2.2.2.2.2.2.fr hI.2.1.2.2.2.2.2.2.2.2.2.2 (fun k j a b => by show _ = M (1 + k) j; unfold cv; simp (disch := omega) only [jset_k, jset_j, jset_same, true_and, and_true]) (fun i a b => by simp (disch := omega) only [jset_k, jset_j, jset_same, true_and, and_true])))
                  · dsimp only [jpush]
                    first
                     | (exfalso; omega)
                     | (skip
                        refine e_if_ne 36 39 dX12_suit_33 (by decide) (by decide) rfl (fun h => absurd h (by decide)) (fun _ => ?_)
                        refine e_bipush 38 dX12_suit_36 (by decide) rfl ?_
                        refine e_iret dX12_suit_38 ?_
                        first
                          | (exact ⟨by omega, hI⟩)
                          | (exfalso; omega)))
            · dsimp only [jpush]
              first
               | (exfalso; omega)
               | (skip
                  refine e_if_ne 21 24 dX12_suit_18 (by decide) (by decide) rfl (fun h => absurd h (by decide)) (fun _ => ?_)
                  refine e_bipush 23 dX12_suit_21 (by decide) rfl ?_
                  refine e_iret dX12_suit_23 ?_
                  first
                    | (exact ⟨by omega, hI⟩)
                    | (exfalso; omega)))
      · dsimp only [jpush]
        first
         | (exfalso; omega)
         | (skip
            refine e_if_eq 13 21 dX12_suit_10 (by decide) (by decide) rfl (fun _ => ?_) (fun h => absurd h (by decide))
            refine e_bipush 23 dX12_suit_21 (by decide) rfl ?_
            refine e_iret dX12_suit_23 ?_
            first
              | (exact ⟨by omega, hI⟩)
              | (exfalso; omega))
  · dsimp only [jpush]
    refine e_if_eq 11 22 dX11_suit_8 (by decide) (by decide) rfl (fun _ => ?_) (fun h => absurd h (by decide))
    refine e_bipush 24 dX11_suit_22 (by decide) rfl ?_
    refine e_iret dX11_suit_24 ?_
    refine jCt_of mt_yX12_suit (Nat.le_of_ble_eq_true rfl) (fun X2 => ?_)
    refine e_aload_n (i := 0) 1 dX12_suit_0 rfl rfl rfl ?_
    refine e_iconst 2 dX12_suit_1 rfl ?_
    refine e_put0 (j := 0) 5 fl_12_1 dX12_suit_2 at_928 rfl rfl rfl (by decide) hI.1 rfl ?_
    refine e_aload_n (i := 0) 6 dX12_suit_5 rfl rfl rfl ?_
    refine e_iload_n (i := 1) 7 dX12_suit_6 rfl rfl rfl ?_
    refine e_callV 10 mt_yX12_isPerson mv_yX12_isPerson wd_1506 (by decide) dX12_suit_7 at_928 jc_12 rfl rfl rfl (Nat.le_of_ble_eq_true rfl) (jroom (by decide)) rfl (m_isPerson (by omega) (fun w7 => ?_) (fun w7 => ?_))
    · dsimp only [jpush]
      first
       | (exfalso; omega)
       | (skip
          refine e_if_eq 13 21 dX12_suit_10 (by decide) (by decide) rfl (fun h => absurd h (by decide)) (fun _ => ?_)
          refine e_aload_n (i := 0) 14 dX12_suit_13 rfl rfl rfl ?_
          refine e_iload_n (i := 2) 15 dX12_suit_14 rfl rfl rfl ?_
          refine e_callV 18 mt_yX12_isKind mv_yX12_isKind wd_1619 (by decide) dX12_suit_15 at_928 jc_12 rfl rfl rfl (Nat.le_of_ble_eq_true rfl) (jroom (by decide)) rfl (m_isKind (by omega) (fun w15 => ?_) (fun w15 => ?_))
          · dsimp only [jpush]
            first
             | (exfalso; omega)
             | (skip
                refine e_if_ne 21 24 dX12_suit_18 (by decide) (by decide) rfl (fun _ => ?_) (fun h => absurd h (by decide))
                refine e_iload_n (i := 3) 25 dX12_suit_24 rfl rfl rfl ?_
                refine e_i2l 26 dX12_suit_25 (by omega) rfl ?_
                refine e_lconst1 27 dX12_suit_26 rfl ?_
                refine e_ldc2 (z := (999)) 30 (ix := 198) wd_1482 (by decide) dX12_suit_27 rfl ?_
                refine e_callS 33 mt_yX12_within ms_yX12_within wd_1390 (by decide) dX12_suit_30 rfl rfl (Nat.le_of_ble_eq_true rfl) (jroom (by decide)) rfl (m_within (by omega) (by omega) (by omega) (fun w30 => ?_) (fun w30 => ?_))
                · dsimp only [jpush]
                  first
                   | (exfalso; omega)
                   | (skip
                      refine e_if_ne 36 39 dX12_suit_33 (by decide) (by decide) rfl (fun _ => ?_) (fun h => absurd h (by decide))
                      refine e_aload_n (i := 0) 40 dX12_suit_39 rfl rfl rfl ?_
                      refine e_getr (j := 1) 43 fl_12_13 dX12_suit_40 at_928 rfl rfl tp_928_1 rfl ?_
                      refine e_sipush 46 dX12_suit_43 (by decide) rfl ?_
                      refine e_iload_n (i := 1) 47 dX12_suit_46 rfl rfl rfl ?_
                      refine e_iadd 48 dX12_suit_47 rfl ?_
                      refine e_iload_n (i := 3) 49 dX12_suit_48 rfl rfl rfl ?_
                      refine e_iast 50 dX12_suit_49 ar_929 (by omega) (by omega) (by omega) rfl ?_
                      refine e_iconst 51 dX12_suit_50 rfl ?_
                      refine e_iret dX12_suit_51 ?_
                      first
                        | (exact ⟨by omega, hI⟩)
                        | (exfalso; omega)
                        | (refine ⟨by omega, ?_⟩
                           refine hI.live ?_ ?_ ?_
                           · repeat (first | exact Live.rf | refine Live.c ?_ (by omega) | refine Live.r ?_ (by omega) | refine Live.s ?_ (by omega))
                           · refine ⟨?_, ?_, ?_, ?_, ?_, ?_, ?_, ?_, ?_, ?_, ?_⟩
                             · exact hI.2.1.1.fr (fun i hi => by simp (disch := omega) only [jset_k, jset_j, jset_same, true_and, and_true])
                             · exact hI.2.1.2.1.fr (fun i a b => by simp (disch := omega) only [jset_k, jset_j, jset_same, true_and, and_true])
                             · exact hI.2.1.2.2.1.fr (fun i a b => by simp (disch := omega) only [jset_k, jset_j, jset_same, true_and, and_true])
                             · exact hI.2.1.2.2.2.1.fr (by omega) (fun i a b => by simp (disch := omega) only [jset_k, jset_j, jset_same, true_and, and_true])
                             · intro q h0 h1
                               simp (disch := omega) only [jset_k, jset_j, jset_same, true_and, and_true] at h1
                               have h := hI.2.1.2.2.2.2.1 q h0 h1
                               by_cases e : q = person
                               · subst e
                                 simp (disch := omega) only [jset_k, jset_j, jset_same, true_and, and_true]
                                 omega
                               · simp (disch := omega) only [jset_k, jset_j, jset_same, true_and, and_true]
                                 exact h
                             · exact hI.2.1.2.2.2.2.2.1.fr (by omega) (fun i a b => by simp (disch := omega) only [jset_k, jset_j, jset_same, true_and, and_true]) (fun i a b => by simp (disch := omega) only [jset_k, jset_j, jset_same, true_and, and_true]) (by simp (disch := omega) only [jset_k, jset_j, jset_same, true_and, and_true]; omega)
                             · exact hI.2.1.2.2.2.2.2.2.1.fr (by omega) (by simp (disch := omega) only [jset_k, jset_j, jset_same, true_and, and_true]) (fun i a b => by simp (disch := omega) only [jset_k, jset_j, jset_same, true_and, and_true])
                             · exact hI.2.1.2.2.2.2.2.2.2.1.fr (by omega) (fun i a b => by simp (disch := omega) only [jset_k, jset_j, jset_same, true_and, and_true]) (fun i a b => by simp (disch := omega) only [jset_k, jset_j, jset_same, true_and, and_true]) (by simp (disch := omega) only [jset_k, jset_j, jset_same, true_and, and_true]; omega)
                             · exact hI.2.1.2.2.2.2.2.2.2.2.1.fr (by omega) (fun i a b => by simp (disch := omega) only [jset_k, jset_j, jset_same, true_and, and_true])
                             · exact hI.2.1.2.2.2.2.2.2.2.2.2.1.fr (fun i a b => by simp (disch := omega) only [jset_k, jset_j, jset_same, true_and, and_true])
                             · exact hI.2.1.2.2.2.2.2.2.2.2.2.2.fr (fun i a b => by simp (disch := omega) only [jset_k, jset_j, jset_same, true_and, and_true])
                           · refine ⟨?_, ?_, ?_, ?_, ?_, ?_, ?_, ?_, ?_, ?_, ?_, ?_⟩
                             · exact hI.2.2.1.1.fr (fun j => by show _ = M (1 + 0) j; unfold cv; simp (disch := omega) only [jset_k, jset_j, jset_same, true_and, and_true]) (fun i hi => by simp (disch := omega) only [jset_k, jset_j, jset_same, true_and, and_true])
                             · exact hI.2.2.1.2.1.fr hI.2.1.2.1 (by omega) (fun k j a b => by show _ = M (1 + k) j; unfold cv; simp (disch := omega) only [jset_k, jset_j, jset_same, true_and, and_true]) (fun i a b => by simp (disch := omega) only [jset_k, jset_j, jset_same, true_and, and_true])
                             · exact hI.2.2.1.2.2.1.fr hI.2.1.2.2.1 (by omega) (fun k j a b => by show _ = M (1 + k) j; unfold cv; simp (disch := omega) only [jset_k, jset_j, jset_same, true_and, and_true]) (fun i a b => by simp (disch := omega) only [jset_k, jset_j, jset_same, true_and, and_true])
                             · exact hI.2.2.1.2.2.2.1.fr (by omega) (fun k j a b => by show _ = M (1 + k) j; unfold cv; simp (disch := omega) only [jset_k, jset_j, jset_same, true_and, and_true]) (fun i a b => by simp (disch := omega) only [jset_k, jset_j, jset_same, true_and, and_true])
                             · intro q h0 h1
                               simp (disch := omega) only [jset_k, jset_j, jset_same, true_and, and_true] at h1
                               simp only [cv1, Int.reduceAdd]
                               have h := (hC.pers h0 h1).1
                               by_cases e : q = person
                               · subst e
                                 simp (disch := omega) only [jset_k, jset_j, jset_same, true_and, and_true]
                                 omega
                               · simp (disch := omega) only [jset_k, jset_j, jset_same, true_and, and_true]
                                 exact h
                             · exact hI.2.2.1.2.2.2.2.2.1.fr (by omega) (fun k j a b => by show _ = M (1 + k) j; unfold cv; simp (disch := omega) only [jset_k, jset_j, jset_same, true_and, and_true]) (fun i a b => by simp (disch := omega) only [jset_k, jset_j, jset_same, true_and, and_true]) (fun i a b => by simp (disch := omega) only [jset_k, jset_j, jset_same, true_and, and_true])
                             · exact hI.2.2.1.2.2.2.2.2.2.1.fr (by omega) (fun k j a b => by show _ = M (1 + k) j; unfold cv; simp (disch := omega) only [jset_k, jset_j, jset_same, true_and, and_true]) (fun i a b => by simp (disch := omega) only [jset_k, jset_j, jset_same, true_and, and_true]) (fun i a b => by simp (disch := omega) only [jset_k, jset_j, jset_same, true_and, and_true])
                             · exact hI.2.2.1.2.2.2.2.2.2.2.1.fr (by omega) (fun k j a b => by show _ = M (1 + k) j; unfold cv; simp (disch := omega) only [jset_k, jset_j, jset_same, true_and, and_true]) (fun i a b => by simp (disch := omega) only [jset_k, jset_j, jset_same, true_and, and_true])
                             · exact hI.2.2.1.2.2.2.2.2.2.2.2.1.fr (fun k j a b => by show _ = M (1 + k) j; unfold cv; simp (disch := omega) only [jset_k, jset_j, jset_same, true_and, and_true]) (fun i a b => by simp (disch := omega) only [jset_k, jset_j, jset_same, true_and, and_true])
                             · exact hI.2.2.1.2.2.2.2.2.2.2.2.2.1.fr (fun k j a b => by show _ = M (1 + k) j; unfold cv; simp (disch := omega) only [jset_k, jset_j, jset_same, true_and, and_true]) (fun i a b => by simp (disch := omega) only [jset_k, jset_j, jset_same, true_and, and_true])
                             · exact hI.2.2.1.2.2.2.2.2.2.2.2.2.2.1.fr (by omega) (fun k j a b => by show _ = M (1 + k) j; unfold cv; simp (disch := omega) only [jset_k, jset_j, jset_same, true_and, and_true]) (fun i a b => by simp (disch := omega) only [jset_k, jset_j, jset_same, true_and, and_true])
                             · exact hI.2.2.1.2.2.2.2.2.2.2.2.2.2.2.fr hI.2.1.2.2.2.2.2.2.2.2.2.2 (fun k j a b => by show _ = M (1 + k) j; unfold cv; simp (disch := omega) only [jset_k, jset_j, jset_same, true_and, and_true]) (fun i a b => by simp (disch := omega) only [jset_k, jset_j, jset_same, true_and, and_true])))
                · dsimp only [jpush]
                  first
                   | (exfalso; omega)
                   | (skip
                      refine e_if_ne 36 39 dX12_suit_33 (by decide) (by decide) rfl (fun h => absurd h (by decide)) (fun _ => ?_)
                      refine e_bipush 38 dX12_suit_36 (by decide) rfl ?_
                      refine e_iret dX12_suit_38 ?_
                      first
                        | (exact ⟨by omega, hI⟩)
                        | (exfalso; omega)))
          · dsimp only [jpush]
            first
             | (exfalso; omega)
             | (skip
                refine e_if_ne 21 24 dX12_suit_18 (by decide) (by decide) rfl (fun h => absurd h (by decide)) (fun _ => ?_)
                refine e_bipush 23 dX12_suit_21 (by decide) rfl ?_
                refine e_iret dX12_suit_23 ?_
                first
                  | (exact ⟨by omega, hI⟩)
                  | (exfalso; omega)))
    · dsimp only [jpush]
      first
       | (exfalso; omega)
       | (skip
          refine e_if_eq 13 21 dX12_suit_10 (by decide) (by decide) rfl (fun _ => ?_) (fun h => absurd h (by decide))
          refine e_bipush 23 dX12_suit_21 (by decide) rfl ?_
          refine e_iret dX12_suit_23 ?_
          first
            | (exact ⟨by omega, hI⟩)
            | (exfalso; omega))

theorem p_list {M : jM} (hI : Inv M) {kind : Int} (hkind : -2147483648 ≤ kind ∧ kind ≤ 2147483647) {week : Int} (hweek : -2147483648 ≤ week ∧ week ≤ 2147483647) : jCt yX11_list cX11_list 3 (some .int) 2 [jR 0, jI kind, jI week] M (fun z M1 => jCt yX12_list cX12_list 4 (some .int) 2 [jR 928, jI kind, jI week] M1 (fun z2 M2 => z = z2 ∧ Inv M2)) := by
  have hC := hI.cr
  have hn := hC.cnt
  have hg := hC.rng
  refine jCt_of mt_yX11_list (Nat.le_of_ble_eq_true rfl) (fun X => ?_)
  refine e_aload_n (i := 0) 1 dX11_list_0 rfl rfl rfl ?_
  refine e_getr (j := 0) 4 fl_11_10 dX11_list_1 at_0 rfl rfl tp_0_0 rfl ?_
  refine e_iload_n (i := 1) 5 dX11_list_4 rfl rfl rfl ?_
  refine e_callV 8 mt_yX8_hasKind mv_yX8_hasKind wd_903 (by decide) dX11_list_5 at_1 jc_8 rfl rfl rfl (Nat.le_of_ble_eq_true rfl) (jroom (by decide)) rfl (c_hasKind (by omega) (fun w5 => ?_) (fun w5 => ?_))
  · dsimp only [jpush]
    refine e_if_ne 11 14 dX11_list_8 (by decide) (by decide) rfl (fun _ => ?_) (fun h => absurd h (by decide))
    refine e_iload_n (i := 2) 15 dX11_list_14 rfl rfl rfl ?_
    refine e_iconst 16 dX11_list_15 rfl ?_
    refine e_sipush 19 dX11_list_16 (by decide) rfl ?_
    refine e_callS 22 mt_yX11_within ms_yX11_within wd_531 (by decide) dX11_list_19 rfl rfl (Nat.le_of_ble_eq_true rfl) (jroom (by decide)) rfl (c_within (by omega) (by omega) (by omega) (fun w19 => ?_) (fun w19 => ?_))
    · dsimp only [jpush]
      refine e_if_ne 25 28 dX11_list_22 (by decide) (by decide) rfl (fun _ => ?_) (fun h => absurd h (by decide))
      refine e_aload_n (i := 0) 29 dX11_list_28 rfl rfl rfl ?_
      refine e_getr (j := 0) 32 fl_11_10 dX11_list_29 at_0 rfl rfl tp_0_0 rfl ?_
      refine e_geti (j := 19) 35 fl_11_416 dX11_list_32 at_1 (by decide) rfl rfl (fun r32 => ?_)
      refine e_bipush 37 dX11_list_35 (by decide) rfl ?_
      refine e_icmp_lt 40 43 dX11_list_37 (by omega) (by decide) (by decide) rfl (fun b37 => ?_) (fun b37 => ?_)
      · skip
        refine e_aload_n (i := 0) 44 dX11_list_43 rfl rfl rfl ?_
        refine e_getr (j := 0) 47 fl_11_10 dX11_list_44 at_0 rfl rfl tp_0_0 rfl ?_
        refine e_getr (j := 18) 50 fl_11_419 dX11_list_47 at_1 rfl rfl tp_1_18 rfl ?_
        refine e_aload_n (i := 0) 51 dX11_list_50 rfl rfl rfl ?_
        refine e_getr (j := 0) 54 fl_11_10 dX11_list_51 at_0 rfl rfl tp_0_0 rfl ?_
        refine e_geti (j := 19) 57 fl_11_416 dX11_list_54 at_1 (by decide) rfl rfl (fun r54 => ?_)
        refine e_aaldi 58 dX11_list_57 ar_43 (by omega) (by omega) (tp_listrow (by omega) (by omega)) rfl ?_
        refine e_iconst 59 dX11_list_58 rfl ?_
        refine e_iload_n (i := 1) 60 dX11_list_59 rfl rfl rfl ?_
        refine e_iast 61 dX11_list_60 (ar_listrow (by omega) (by omega)) (by decide) (by decide) (by omega) rfl ?_
        refine e_aload_n (i := 0) 62 dX11_list_61 rfl rfl rfl ?_
        refine e_getr (j := 0) 65 fl_11_10 dX11_list_62 at_0 rfl rfl tp_0_0 rfl ?_
        refine e_getr (j := 18) 68 fl_11_419 dX11_list_65 at_1 rfl rfl tp_1_18 rfl ?_
        refine e_aload_n (i := 0) 69 dX11_list_68 rfl rfl rfl ?_
        refine e_getr (j := 0) 72 fl_11_10 dX11_list_69 at_0 rfl rfl tp_0_0 rfl ?_
        refine e_geti (j := 19) 75 fl_11_416 dX11_list_72 at_1 (by decide) rfl rfl (fun r72 => ?_)
        simp (disch := omega) only [jset_k, jset_j, jset_same, true_and, and_true] at r72 ⊢
        refine e_aaldi 76 dX11_list_75 ar_43 (by omega) (by omega) (tp_listrow (by omega) (by omega)) rfl ?_
        refine e_iconst 77 dX11_list_76 rfl ?_
        refine e_iload_n (i := 2) 78 dX11_list_77 rfl rfl rfl ?_
        refine e_iast 79 dX11_list_78 (ar_listrow (by omega) (by omega)) (by decide) (by decide) (by omega) rfl ?_
        refine e_aload_n (i := 0) 80 dX11_list_79 rfl rfl rfl ?_
        refine e_getr (j := 0) 83 fl_11_10 dX11_list_80 at_0 rfl rfl tp_0_0 rfl ?_
        refine e_dup 84 dX11_list_83 rfl rfl ?_
        refine e_geti (j := 19) 87 fl_11_416 dX11_list_84 at_1 (by decide) rfl rfl (fun r84 => ?_)
        simp (disch := omega) only [jset_k, jset_j, jset_same, true_and, and_true] at r84 ⊢
        refine e_iconst 88 dX11_list_87 rfl ?_
        refine e_iadd 89 dX11_list_88 rfl ?_
        refine e_puti (j := 19) 92 fl_11_416 dX11_list_89 at_1 rfl rfl rfl (by omega) rfl ?_
        refine e_aload_n (i := 0) 93 dX11_list_92 rfl rfl rfl ?_
        refine e_getr (j := 0) 96 fl_11_10 dX11_list_93 at_0 rfl rfl tp_0_0 rfl ?_
        refine e_geti (j := 19) 99 fl_11_416 dX11_list_96 at_1 (by decide) rfl rfl (fun r96 => ?_)
        simp (disch := omega) only [jset_k, jset_j, jset_same, true_and, and_true] at r96 ⊢
        refine e_iconst 100 dX11_list_99 rfl ?_
        refine e_isub 101 dX11_list_100 rfl ?_
        refine e_iret dX11_list_101 ?_
        refine jCt_of mt_yX12_list (Nat.le_of_ble_eq_true rfl) (fun X2 => ?_)
        refine e_aload_n (i := 0) 1 dX12_list_0 rfl rfl rfl ?_
        refine e_iconst 2 dX12_list_1 rfl ?_
        refine e_put0 (j := 0) 5 fl_12_1 dX12_list_2 at_928 rfl rfl rfl (by decide) (by simp (disch := omega) only [jset_k, jset_j, jset_same, true_and, and_true]; exact hI.1) rfl ?_
        refine e_aload_n (i := 0) 6 dX12_list_5 rfl rfl rfl ?_
        refine e_iload_n (i := 1) 7 dX12_list_6 rfl rfl rfl ?_
        refine e_callV 10 mt_yX12_isKind mv_yX12_isKind wd_1619 (by decide) dX12_list_7 at_928 jc_12 rfl rfl rfl (Nat.le_of_ble_eq_true rfl) (jroom (by decide)) rfl (m_isKind (by omega) (fun w7 => ?_) (fun w7 => ?_))
        · dsimp only [jpush]
          (try simp (disch := omega) only [jset_k, jset_j, jset_same, true_and, and_true] at w7)
          first
           | (exfalso; omega)
           | (skip
              refine e_if_ne 13 16 dX12_list_10 (by decide) (by decide) rfl (fun _ => ?_) (fun h => absurd h (by decide))
              refine e_iload_n (i := 2) 17 dX12_list_16 rfl rfl rfl ?_
              refine e_i2l 18 dX12_list_17 (by omega) rfl ?_
              refine e_lconst0 19 dX12_list_18 rfl ?_
              refine e_ldc2 (z := (300)) 22 (ix := 200) wd_1483 (by decide) dX12_list_19 rfl ?_
              refine e_callS 25 mt_yX12_within ms_yX12_within wd_1390 (by decide) dX12_list_22 rfl rfl (Nat.le_of_ble_eq_true rfl) (jroom (by decide)) rfl (m_within (by omega) (by omega) (by omega) (fun w22 => ?_) (fun w22 => ?_))
              · dsimp only [jpush]
                (try simp (disch := omega) only [jset_k, jset_j, jset_same, true_and, and_true] at w22)
                first
                 | (exfalso; omega)
                 | (skip
                    refine e_if_ne 28 31 dX12_list_25 (by decide) (by decide) rfl (fun _ => ?_) (fun h => absurd h (by decide))
                    refine e_aload_n (i := 0) 32 dX12_list_31 rfl rfl rfl ?_
                    refine e_getr (j := 1) 35 fl_12_13 dX12_list_32 at_928 rfl rfl tp_928_1 rfl ?_
                    refine e_sipush 38 dX12_list_35 (by decide) rfl ?_
                    refine e_iald 39 dX12_list_38 ar_929 (by decide) (by decide) rfl (fun r38 => ?_)
                    simp (disch := omega) only [jset_k, jset_j, jset_same, true_and, and_true] at r38 ⊢
                    refine e_istore_n (i := 3) (lsn := [(3, _), (0, _), (1, _), (2, _)]) 40 dX12_list_39 rfl (by decide) rfl rfl ?_
                    refine e_iload_n (i := 3) 41 dX12_list_40 rfl rfl rfl ?_
                    refine e_bipush 43 dX12_list_41 (by decide) rfl ?_
                    refine e_icmp_ne 46 49 dX12_list_43 (by omega) (by decide) (by decide) rfl (fun b43 => ?_) (fun b43 => ?_)
                    · first
                       | (exfalso; omega)
                       | (skip
                          refine e_aload_n (i := 0) 50 dX12_list_49 rfl rfl rfl ?_
                          refine e_getr (j := 1) 53 fl_12_13 dX12_list_50 at_928 rfl rfl tp_928_1 rfl ?_
                          refine e_sipush 56 dX12_list_53 (by decide) rfl ?_
                          refine e_iload_n (i := 3) 57 dX12_list_56 rfl rfl rfl ?_
                          refine e_iadd 58 dX12_list_57 rfl ?_
                          refine e_iload_n (i := 1) 59 dX12_list_58 rfl rfl rfl ?_
                          refine e_iast 60 dX12_list_59 ar_929 (by omega) (by omega) (by omega) rfl ?_
                          refine e_aload_n (i := 0) 61 dX12_list_60 rfl rfl rfl ?_
                          refine e_getr (j := 1) 64 fl_12_13 dX12_list_61 at_928 rfl rfl tp_928_1 rfl ?_
                          refine e_sipush 67 dX12_list_64 (by decide) rfl ?_
                          refine e_iload_n (i := 3) 68 dX12_list_67 rfl rfl rfl ?_
                          refine e_iadd 69 dX12_list_68 rfl ?_
                          refine e_iload_n (i := 2) 70 dX12_list_69 rfl rfl rfl ?_
                          refine e_iast 71 dX12_list_70 ar_929 (by omega) (by omega) (by omega) rfl ?_
                          refine e_aload_n (i := 0) 72 dX12_list_71 rfl rfl rfl ?_
                          refine e_getr (j := 1) 75 fl_12_13 dX12_list_72 at_928 rfl rfl tp_928_1 rfl ?_
                          refine e_sipush 78 dX12_list_75 (by decide) rfl ?_
                          refine e_dup2 79 dX12_list_78 rfl rfl rfl ?_
                          refine e_iald 80 dX12_list_79 ar_929 (by decide) (by decide) rfl (fun r79 => ?_)
                          simp (disch := omega) only [jset_k, jset_j, jset_same, true_and, and_true] at r79 ⊢
                          refine e_iconst 81 dX12_list_80 rfl ?_
                          refine e_iadd 82 dX12_list_81 rfl ?_
                          refine e_iast 83 dX12_list_82 ar_929 (by decide) (by decide) (by omega) rfl ?_
                          refine e_iload_n (i := 3) 84 dX12_list_83 rfl rfl rfl ?_
                          refine e_iret dX12_list_84 ?_
                          first
                            | (exact ⟨by omega, hI⟩)
                            | (exfalso; omega)
                            | (refine ⟨by omega, ?_⟩
                               simp only [hn.2.2.2.2.2.1]
                               refine hI.live ?_ ?_ ?_
                               · repeat (first | exact Live.rf | refine Live.c ?_ (by omega) | refine Live.r ?_ (by omega) | refine Live.s ?_ (by omega))
                               · refine ⟨?_, ?_, ?_, ?_, ?_, ?_, ?_, ?_, ?_, ?_, ?_⟩
                                 · have h := hI.2.1.1
                                   unfold RCnt at h ⊢
                                   simp (disch := omega) only [jset_k, jset_j, jset_same, true_and, and_true]
                                   omega
                                 · exact hI.2.1.2.1.fr (fun i a b => by simp (disch := omega) only [jset_k, jset_j, jset_same, true_and, and_true])
                                 · exact hI.2.1.2.2.1.fr (fun i a b => by simp (disch := omega) only [jset_k, jset_j, jset_same, true_and, and_true])
                                 · exact hI.2.1.2.2.2.1.fr (by omega) (fun i a b => by simp (disch := omega) only [jset_k, jset_j, jset_same, true_and, and_true])
                                 · exact hI.2.1.2.2.2.2.1.fr (by omega) (fun i a b => by simp (disch := omega) only [jset_k, jset_j, jset_same, true_and, and_true]) (fun i a b => by simp (disch := omega) only [jset_k, jset_j, jset_same, true_and, and_true])
                                 · exact hI.2.1.2.2.2.2.2.1.fr (by omega) (fun i a b => by simp (disch := omega) only [jset_k, jset_j, jset_same, true_and, and_true]) (fun i a b => by simp (disch := omega) only [jset_k, jset_j, jset_same, true_and, and_true]) (by simp (disch := omega) only [jset_k, jset_j, jset_same, true_and, and_true]; omega)
                                 · exact hI.2.1.2.2.2.2.2.2.1.fr (by omega) (by simp (disch := omega) only [jset_k, jset_j, jset_same, true_and, and_true]) (fun i a b => by simp (disch := omega) only [jset_k, jset_j, jset_same, true_and, and_true])
                                 · exact hI.2.1.2.2.2.2.2.2.2.1.fr (by omega) (fun i a b => by simp (disch := omega) only [jset_k, jset_j, jset_same, true_and, and_true]) (fun i a b => by simp (disch := omega) only [jset_k, jset_j, jset_same, true_and, and_true]) (by simp (disch := omega) only [jset_k, jset_j, jset_same, true_and, and_true]; omega)
                                 · exact hI.2.1.2.2.2.2.2.2.2.2.1.fr (by omega) (fun i a b => by simp (disch := omega) only [jset_k, jset_j, jset_same, true_and, and_true])
                                 · exact hI.2.1.2.2.2.2.2.2.2.2.2.1.fr (fun i a b => by simp (disch := omega) only [jset_k, jset_j, jset_same, true_and, and_true])
                                 · exact hI.2.1.2.2.2.2.2.2.2.2.2.2.fr (fun i a b => by simp (disch := omega) only [jset_k, jset_j, jset_same, true_and, and_true])
                               · refine ⟨?_, ?_, ?_, ?_, ?_, ?_, ?_, ?_, ?_, ?_, ?_, ?_⟩
                                 · have h := hC.cnt
                                   unfold CCnt cv
                                   simp (disch := omega) only [jset_k, jset_j, jset_same, true_and, and_true, Int.reduceAdd]
                                   first | omega | exact h
                                 · exact hI.2.2.1.2.1.fr hI.2.1.2.1 (by omega) (fun k j a b => by show _ = M (1 + k) j; unfold cv; simp (disch := omega) only [jset_k, jset_j, jset_same, true_and, and_true]) (fun i a b => by simp (disch := omega) only [jset_k, jset_j, jset_same, true_and, and_true])
                                 · exact hI.2.2.1.2.2.1.fr hI.2.1.2.2.1 (by omega) (fun k j a b => by show _ = M (1 + k) j; unfold cv; simp (disch := omega) only [jset_k, jset_j, jset_same, true_and, and_true]) (fun i a b => by simp (disch := omega) only [jset_k, jset_j, jset_same, true_and, and_true])
                                 · exact hI.2.2.1.2.2.2.1.fr (by omega) (fun k j a b => by show _ = M (1 + k) j; unfold cv; simp (disch := omega) only [jset_k, jset_j, jset_same, true_and, and_true]) (fun i a b => by simp (disch := omega) only [jset_k, jset_j, jset_same, true_and, and_true])
                                 · exact hI.2.2.1.2.2.2.2.1.fr (by omega) (fun k j a b => by show _ = M (1 + k) j; unfold cv; simp (disch := omega) only [jset_k, jset_j, jset_same, true_and, and_true]) (fun i a b => by simp (disch := omega) only [jset_k, jset_j, jset_same, true_and, and_true]) (fun i a b => by simp (disch := omega) only [jset_k, jset_j, jset_same, true_and, and_true])
                                 · exact hI.2.2.1.2.2.2.2.2.1.fr (by omega) (fun k j a b => by show _ = M (1 + k) j; unfold cv; simp (disch := omega) only [jset_k, jset_j, jset_same, true_and, and_true]) (fun i a b => by simp (disch := omega) only [jset_k, jset_j, jset_same, true_and, and_true]) (fun i a b => by simp (disch := omega) only [jset_k, jset_j, jset_same, true_and, and_true])
                                 · exact hI.2.2.1.2.2.2.2.2.2.1.fr (by omega) (fun k j a b => by show _ = M (1 + k) j; unfold cv; simp (disch := omega) only [jset_k, jset_j, jset_same, true_and, and_true]) (fun i a b => by simp (disch := omega) only [jset_k, jset_j, jset_same, true_and, and_true]) (fun i a b => by simp (disch := omega) only [jset_k, jset_j, jset_same, true_and, and_true])
                                 · exact hI.2.2.1.2.2.2.2.2.2.2.1.fr (by omega) (fun k j a b => by show _ = M (1 + k) j; unfold cv; simp (disch := omega) only [jset_k, jset_j, jset_same, true_and, and_true]) (fun i a b => by simp (disch := omega) only [jset_k, jset_j, jset_same, true_and, and_true])
                                 · exact hI.2.2.1.2.2.2.2.2.2.2.2.1.fr (fun k j a b => by show _ = M (1 + k) j; unfold cv; simp (disch := omega) only [jset_k, jset_j, jset_same, true_and, and_true]) (fun i a b => by simp (disch := omega) only [jset_k, jset_j, jset_same, true_and, and_true])
                                 · exact hI.2.2.1.2.2.2.2.2.2.2.2.2.1.fr (fun k j a b => by show _ = M (1 + k) j; unfold cv; simp (disch := omega) only [jset_k, jset_j, jset_same, true_and, and_true]) (fun i a b => by simp (disch := omega) only [jset_k, jset_j, jset_same, true_and, and_true])
                                 · intro k h0 h1
                                   simp (disch := omega) only [jset_k, jset_j, jset_same, true_and, and_true] at h1
                                   simp only [cv1, Int.reduceAdd]
                                   by_cases e : k < M 929 3895
                                   · have h := hC.ls h0 e
                                     simp (disch := omega) only [jset_k, jset_j, jset_same, true_and, and_true]
                                     exact h
                                   · have e2 : k = M 929 3895 := by omega
                                     subst e2
                                     simp (disch := omega) only [jset_k, jset_j, jset_same, true_and, and_true]
                                     all_goals (first | omega | simp)
                                 · exact hI.2.2.1.2.2.2.2.2.2.2.2.2.2.2.fr hI.2.1.2.2.2.2.2.2.2.2.2.2 (fun k j a b => by show _ = M (1 + k) j; unfold cv; simp (disch := omega) only [jset_k, jset_j, jset_same, true_and, and_true]) (fun i a b => by simp (disch := omega) only [jset_k, jset_j, jset_same, true_and, and_true])))
                    · first
                       | (exfalso; omega)
                       | (skip
                          refine e_bipush 48 dX12_list_46 (by decide) rfl ?_
                          refine e_iret dX12_list_48 ?_
                          first
                            | (exact ⟨by omega, hI⟩)
                            | (exfalso; omega)
                            | (refine ⟨by omega, ?_⟩
                               simp only [hn.2.2.2.2.2.1]
                               refine hI.live ?_ ?_ ?_
                               · repeat (first | exact Live.rf | refine Live.c ?_ (by omega) | refine Live.r ?_ (by omega) | refine Live.s ?_ (by omega))
                               · refine ⟨?_, ?_, ?_, ?_, ?_, ?_, ?_, ?_, ?_, ?_, ?_⟩
                                 · have h := hI.2.1.1
                                   unfold RCnt at h ⊢
                                   simp (disch := omega) only [jset_k, jset_j, jset_same, true_and, and_true]
                                   omega
                                 · exact hI.2.1.2.1.fr (fun i a b => by simp (disch := omega) only [jset_k, jset_j, jset_same, true_and, and_true])
                                 · exact hI.2.1.2.2.1.fr (fun i a b => by simp (disch := omega) only [jset_k, jset_j, jset_same, true_and, and_true])
                                 · exact hI.2.1.2.2.2.1.fr (by omega) (fun i a b => by simp (disch := omega) only [jset_k, jset_j, jset_same, true_and, and_true])
                                 · exact hI.2.1.2.2.2.2.1.fr (by omega) (fun i a b => by simp (disch := omega) only [jset_k, jset_j, jset_same, true_and, and_true]) (fun i a b => by simp (disch := omega) only [jset_k, jset_j, jset_same, true_and, and_true])
                                 · exact hI.2.1.2.2.2.2.2.1.fr (by omega) (fun i a b => by simp (disch := omega) only [jset_k, jset_j, jset_same, true_and, and_true]) (fun i a b => by simp (disch := omega) only [jset_k, jset_j, jset_same, true_and, and_true]) (by simp (disch := omega) only [jset_k, jset_j, jset_same, true_and, and_true]; omega)
                                 · exact hI.2.1.2.2.2.2.2.2.1.fr (by omega) (by simp (disch := omega) only [jset_k, jset_j, jset_same, true_and, and_true]) (fun i a b => by simp (disch := omega) only [jset_k, jset_j, jset_same, true_and, and_true])
                                 · exact hI.2.1.2.2.2.2.2.2.2.1.fr (by omega) (fun i a b => by simp (disch := omega) only [jset_k, jset_j, jset_same, true_and, and_true]) (fun i a b => by simp (disch := omega) only [jset_k, jset_j, jset_same, true_and, and_true]) (by simp (disch := omega) only [jset_k, jset_j, jset_same, true_and, and_true]; omega)
                                 · exact hI.2.1.2.2.2.2.2.2.2.2.1.fr (by omega) (fun i a b => by simp (disch := omega) only [jset_k, jset_j, jset_same, true_and, and_true])
                                 · exact hI.2.1.2.2.2.2.2.2.2.2.2.1.fr (fun i a b => by simp (disch := omega) only [jset_k, jset_j, jset_same, true_and, and_true])
                                 · exact hI.2.1.2.2.2.2.2.2.2.2.2.2.fr (fun i a b => by simp (disch := omega) only [jset_k, jset_j, jset_same, true_and, and_true])
                               · refine ⟨?_, ?_, ?_, ?_, ?_, ?_, ?_, ?_, ?_, ?_, ?_, ?_⟩
                                 · have h := hC.cnt
                                   unfold CCnt cv
                                   simp (disch := omega) only [jset_k, jset_j, jset_same, true_and, and_true, Int.reduceAdd]
                                   first | omega | exact h
                                 · exact hI.2.2.1.2.1.fr hI.2.1.2.1 (by omega) (fun k j a b => by show _ = M (1 + k) j; unfold cv; simp (disch := omega) only [jset_k, jset_j, jset_same, true_and, and_true]) (fun i a b => by simp (disch := omega) only [jset_k, jset_j, jset_same, true_and, and_true])
                                 · exact hI.2.2.1.2.2.1.fr hI.2.1.2.2.1 (by omega) (fun k j a b => by show _ = M (1 + k) j; unfold cv; simp (disch := omega) only [jset_k, jset_j, jset_same, true_and, and_true]) (fun i a b => by simp (disch := omega) only [jset_k, jset_j, jset_same, true_and, and_true])
                                 · exact hI.2.2.1.2.2.2.1.fr (by omega) (fun k j a b => by show _ = M (1 + k) j; unfold cv; simp (disch := omega) only [jset_k, jset_j, jset_same, true_and, and_true]) (fun i a b => by simp (disch := omega) only [jset_k, jset_j, jset_same, true_and, and_true])
                                 · exact hI.2.2.1.2.2.2.2.1.fr (by omega) (fun k j a b => by show _ = M (1 + k) j; unfold cv; simp (disch := omega) only [jset_k, jset_j, jset_same, true_and, and_true]) (fun i a b => by simp (disch := omega) only [jset_k, jset_j, jset_same, true_and, and_true]) (fun i a b => by simp (disch := omega) only [jset_k, jset_j, jset_same, true_and, and_true])
                                 · exact hI.2.2.1.2.2.2.2.2.1.fr (by omega) (fun k j a b => by show _ = M (1 + k) j; unfold cv; simp (disch := omega) only [jset_k, jset_j, jset_same, true_and, and_true]) (fun i a b => by simp (disch := omega) only [jset_k, jset_j, jset_same, true_and, and_true]) (fun i a b => by simp (disch := omega) only [jset_k, jset_j, jset_same, true_and, and_true])
                                 · exact hI.2.2.1.2.2.2.2.2.2.1.fr (by omega) (fun k j a b => by show _ = M (1 + k) j; unfold cv; simp (disch := omega) only [jset_k, jset_j, jset_same, true_and, and_true]) (fun i a b => by simp (disch := omega) only [jset_k, jset_j, jset_same, true_and, and_true]) (fun i a b => by simp (disch := omega) only [jset_k, jset_j, jset_same, true_and, and_true])
                                 · exact hI.2.2.1.2.2.2.2.2.2.2.1.fr (by omega) (fun k j a b => by show _ = M (1 + k) j; unfold cv; simp (disch := omega) only [jset_k, jset_j, jset_same, true_and, and_true]) (fun i a b => by simp (disch := omega) only [jset_k, jset_j, jset_same, true_and, and_true])
                                 · exact hI.2.2.1.2.2.2.2.2.2.2.2.1.fr (fun k j a b => by show _ = M (1 + k) j; unfold cv; simp (disch := omega) only [jset_k, jset_j, jset_same, true_and, and_true]) (fun i a b => by simp (disch := omega) only [jset_k, jset_j, jset_same, true_and, and_true])
                                 · exact hI.2.2.1.2.2.2.2.2.2.2.2.2.1.fr (fun k j a b => by show _ = M (1 + k) j; unfold cv; simp (disch := omega) only [jset_k, jset_j, jset_same, true_and, and_true]) (fun i a b => by simp (disch := omega) only [jset_k, jset_j, jset_same, true_and, and_true])
                                 · intro k h0 h1
                                   simp (disch := omega) only [jset_k, jset_j, jset_same, true_and, and_true] at h1
                                   simp only [cv1, Int.reduceAdd]
                                   by_cases e : k < M 929 3895
                                   · have h := hC.ls h0 e
                                     simp (disch := omega) only [jset_k, jset_j, jset_same, true_and, and_true]
                                     exact h
                                   · have e2 : k = M 929 3895 := by omega
                                     subst e2
                                     simp (disch := omega) only [jset_k, jset_j, jset_same, true_and, and_true]
                                     all_goals (first | omega | simp)
                                 · exact hI.2.2.1.2.2.2.2.2.2.2.2.2.2.2.fr hI.2.1.2.2.2.2.2.2.2.2.2.2 (fun k j a b => by show _ = M (1 + k) j; unfold cv; simp (disch := omega) only [jset_k, jset_j, jset_same, true_and, and_true]) (fun i a b => by simp (disch := omega) only [jset_k, jset_j, jset_same, true_and, and_true]))))
              · dsimp only [jpush]
                (try simp (disch := omega) only [jset_k, jset_j, jset_same, true_and, and_true] at w22)
                first
                 | (exfalso; omega)
                 | (skip
                    refine e_if_ne 28 31 dX12_list_25 (by decide) (by decide) rfl (fun h => absurd h (by decide)) (fun _ => ?_)
                    refine e_bipush 30 dX12_list_28 (by decide) rfl ?_
                    refine e_iret dX12_list_30 ?_
                    first
                      | (exact ⟨by omega, hI⟩)
                      | (exfalso; omega)
                      | (refine ⟨by omega, ?_⟩
                         simp only [hn.2.2.2.2.2.1]
                         refine hI.live ?_ ?_ ?_
                         · repeat (first | exact Live.rf | refine Live.c ?_ (by omega) | refine Live.r ?_ (by omega) | refine Live.s ?_ (by omega))
                         · refine ⟨?_, ?_, ?_, ?_, ?_, ?_, ?_, ?_, ?_, ?_, ?_⟩
                           · have h := hI.2.1.1
                             unfold RCnt at h ⊢
                             simp (disch := omega) only [jset_k, jset_j, jset_same, true_and, and_true]
                             omega
                           · exact hI.2.1.2.1.fr (fun i a b => by simp (disch := omega) only [jset_k, jset_j, jset_same, true_and, and_true])
                           · exact hI.2.1.2.2.1.fr (fun i a b => by simp (disch := omega) only [jset_k, jset_j, jset_same, true_and, and_true])
                           · exact hI.2.1.2.2.2.1.fr (by omega) (fun i a b => by simp (disch := omega) only [jset_k, jset_j, jset_same, true_and, and_true])
                           · exact hI.2.1.2.2.2.2.1.fr (by omega) (fun i a b => by simp (disch := omega) only [jset_k, jset_j, jset_same, true_and, and_true]) (fun i a b => by simp (disch := omega) only [jset_k, jset_j, jset_same, true_and, and_true])
                           · exact hI.2.1.2.2.2.2.2.1.fr (by omega) (fun i a b => by simp (disch := omega) only [jset_k, jset_j, jset_same, true_and, and_true]) (fun i a b => by simp (disch := omega) only [jset_k, jset_j, jset_same, true_and, and_true]) (by simp (disch := omega) only [jset_k, jset_j, jset_same, true_and, and_true]; omega)
                           · exact hI.2.1.2.2.2.2.2.2.1.fr (by omega) (by simp (disch := omega) only [jset_k, jset_j, jset_same, true_and, and_true]) (fun i a b => by simp (disch := omega) only [jset_k, jset_j, jset_same, true_and, and_true])
                           · exact hI.2.1.2.2.2.2.2.2.2.1.fr (by omega) (fun i a b => by simp (disch := omega) only [jset_k, jset_j, jset_same, true_and, and_true]) (fun i a b => by simp (disch := omega) only [jset_k, jset_j, jset_same, true_and, and_true]) (by simp (disch := omega) only [jset_k, jset_j, jset_same, true_and, and_true]; omega)
                           · exact hI.2.1.2.2.2.2.2.2.2.2.1.fr (by omega) (fun i a b => by simp (disch := omega) only [jset_k, jset_j, jset_same, true_and, and_true])
                           · exact hI.2.1.2.2.2.2.2.2.2.2.2.1.fr (fun i a b => by simp (disch := omega) only [jset_k, jset_j, jset_same, true_and, and_true])
                           · exact hI.2.1.2.2.2.2.2.2.2.2.2.2.fr (fun i a b => by simp (disch := omega) only [jset_k, jset_j, jset_same, true_and, and_true])
                         · refine ⟨?_, ?_, ?_, ?_, ?_, ?_, ?_, ?_, ?_, ?_, ?_, ?_⟩
                           · have h := hC.cnt
                             unfold CCnt cv
                             simp (disch := omega) only [jset_k, jset_j, jset_same, true_and, and_true, Int.reduceAdd]
                             first | omega | exact h
                           · exact hI.2.2.1.2.1.fr hI.2.1.2.1 (by omega) (fun k j a b => by show _ = M (1 + k) j; unfold cv; simp (disch := omega) only [jset_k, jset_j, jset_same, true_and, and_true]) (fun i a b => by simp (disch := omega) only [jset_k, jset_j, jset_same, true_and, and_true])
                           · exact hI.2.2.1.2.2.1.fr hI.2.1.2.2.1 (by omega) (fun k j a b => by show _ = M (1 + k) j; unfold cv; simp (disch := omega) only [jset_k, jset_j, jset_same, true_and, and_true]) (fun i a b => by simp (disch := omega) only [jset_k, jset_j, jset_same, true_and, and_true])
                           · exact hI.2.2.1.2.2.2.1.fr (by omega) (fun k j a b => by show _ = M (1 + k) j; unfold cv; simp (disch := omega) only [jset_k, jset_j, jset_same, true_and, and_true]) (fun i a b => by simp (disch := omega) only [jset_k, jset_j, jset_same, true_and, and_true])
                           · exact hI.2.2.1.2.2.2.2.1.fr (by omega) (fun k j a b => by show _ = M (1 + k) j; unfold cv; simp (disch := omega) only [jset_k, jset_j, jset_same, true_and, and_true]) (fun i a b => by simp (disch := omega) only [jset_k, jset_j, jset_same, true_and, and_true]) (fun i a b => by simp (disch := omega) only [jset_k, jset_j, jset_same, true_and, and_true])
                           · exact hI.2.2.1.2.2.2.2.2.1.fr (by omega) (fun k j a b => by show _ = M (1 + k) j; unfold cv; simp (disch := omega) only [jset_k, jset_j, jset_same, true_and, and_true]) (fun i a b => by simp (disch := omega) only [jset_k, jset_j, jset_same, true_and, and_true]) (fun i a b => by simp (disch := omega) only [jset_k, jset_j, jset_same, true_and, and_true])
                           · exact hI.2.2.1.2.2.2.2.2.2.1.fr (by omega) (fun k j a b => by show _ = M (1 + k) j; unfold cv; simp (disch := omega) only [jset_k, jset_j, jset_same, true_and, and_true]) (fun i a b => by simp (disch := omega) only [jset_k, jset_j, jset_same, true_and, and_true]) (fun i a b => by simp (disch := omega) only [jset_k, jset_j, jset_same, true_and, and_true])
                           · exact hI.2.2.1.2.2.2.2.2.2.2.1.fr (by omega) (fun k j a b => by show _ = M (1 + k) j; unfold cv; simp (disch := omega) only [jset_k, jset_j, jset_same, true_and, and_true]) (fun i a b => by simp (disch := omega) only [jset_k, jset_j, jset_same, true_and, and_true])
                           · exact hI.2.2.1.2.2.2.2.2.2.2.2.1.fr (fun k j a b => by show _ = M (1 + k) j; unfold cv; simp (disch := omega) only [jset_k, jset_j, jset_same, true_and, and_true]) (fun i a b => by simp (disch := omega) only [jset_k, jset_j, jset_same, true_and, and_true])
                           · exact hI.2.2.1.2.2.2.2.2.2.2.2.2.1.fr (fun k j a b => by show _ = M (1 + k) j; unfold cv; simp (disch := omega) only [jset_k, jset_j, jset_same, true_and, and_true]) (fun i a b => by simp (disch := omega) only [jset_k, jset_j, jset_same, true_and, and_true])
                           · intro k h0 h1
                             simp (disch := omega) only [jset_k, jset_j, jset_same, true_and, and_true] at h1
                             simp only [cv1, Int.reduceAdd]
                             by_cases e : k < M 929 3895
                             · have h := hC.ls h0 e
                               simp (disch := omega) only [jset_k, jset_j, jset_same, true_and, and_true]
                               exact h
                             · have e2 : k = M 929 3895 := by omega
                               subst e2
                               simp (disch := omega) only [jset_k, jset_j, jset_same, true_and, and_true]
                               all_goals (first | omega | simp)
                           · exact hI.2.2.1.2.2.2.2.2.2.2.2.2.2.2.fr hI.2.1.2.2.2.2.2.2.2.2.2.2 (fun k j a b => by show _ = M (1 + k) j; unfold cv; simp (disch := omega) only [jset_k, jset_j, jset_same, true_and, and_true]) (fun i a b => by simp (disch := omega) only [jset_k, jset_j, jset_same, true_and, and_true]))))
        · dsimp only [jpush]
          (try simp (disch := omega) only [jset_k, jset_j, jset_same, true_and, and_true] at w7)
          first
           | (exfalso; omega)
           | (skip
              refine e_if_ne 13 16 dX12_list_10 (by decide) (by decide) rfl (fun h => absurd h (by decide)) (fun _ => ?_)
              refine e_bipush 15 dX12_list_13 (by decide) rfl ?_
              refine e_iret dX12_list_15 ?_
              first
                | (exact ⟨by omega, hI⟩)
                | (exfalso; omega)
                | (refine ⟨by omega, ?_⟩
                   simp only [hn.2.2.2.2.2.1]
                   refine hI.live ?_ ?_ ?_
                   · repeat (first | exact Live.rf | refine Live.c ?_ (by omega) | refine Live.r ?_ (by omega) | refine Live.s ?_ (by omega))
                   · refine ⟨?_, ?_, ?_, ?_, ?_, ?_, ?_, ?_, ?_, ?_, ?_⟩
                     · have h := hI.2.1.1
                       unfold RCnt at h ⊢
                       simp (disch := omega) only [jset_k, jset_j, jset_same, true_and, and_true]
                       omega
                     · exact hI.2.1.2.1.fr (fun i a b => by simp (disch := omega) only [jset_k, jset_j, jset_same, true_and, and_true])
                     · exact hI.2.1.2.2.1.fr (fun i a b => by simp (disch := omega) only [jset_k, jset_j, jset_same, true_and, and_true])
                     · exact hI.2.1.2.2.2.1.fr (by omega) (fun i a b => by simp (disch := omega) only [jset_k, jset_j, jset_same, true_and, and_true])
                     · exact hI.2.1.2.2.2.2.1.fr (by omega) (fun i a b => by simp (disch := omega) only [jset_k, jset_j, jset_same, true_and, and_true]) (fun i a b => by simp (disch := omega) only [jset_k, jset_j, jset_same, true_and, and_true])
                     · exact hI.2.1.2.2.2.2.2.1.fr (by omega) (fun i a b => by simp (disch := omega) only [jset_k, jset_j, jset_same, true_and, and_true]) (fun i a b => by simp (disch := omega) only [jset_k, jset_j, jset_same, true_and, and_true]) (by simp (disch := omega) only [jset_k, jset_j, jset_same, true_and, and_true]; omega)
                     · exact hI.2.1.2.2.2.2.2.2.1.fr (by omega) (by simp (disch := omega) only [jset_k, jset_j, jset_same, true_and, and_true]) (fun i a b => by simp (disch := omega) only [jset_k, jset_j, jset_same, true_and, and_true])
                     · exact hI.2.1.2.2.2.2.2.2.2.1.fr (by omega) (fun i a b => by simp (disch := omega) only [jset_k, jset_j, jset_same, true_and, and_true]) (fun i a b => by simp (disch := omega) only [jset_k, jset_j, jset_same, true_and, and_true]) (by simp (disch := omega) only [jset_k, jset_j, jset_same, true_and, and_true]; omega)
                     · exact hI.2.1.2.2.2.2.2.2.2.2.1.fr (by omega) (fun i a b => by simp (disch := omega) only [jset_k, jset_j, jset_same, true_and, and_true])
                     · exact hI.2.1.2.2.2.2.2.2.2.2.2.1.fr (fun i a b => by simp (disch := omega) only [jset_k, jset_j, jset_same, true_and, and_true])
                     · exact hI.2.1.2.2.2.2.2.2.2.2.2.2.fr (fun i a b => by simp (disch := omega) only [jset_k, jset_j, jset_same, true_and, and_true])
                   · refine ⟨?_, ?_, ?_, ?_, ?_, ?_, ?_, ?_, ?_, ?_, ?_, ?_⟩
                     · have h := hC.cnt
                       unfold CCnt cv
                       simp (disch := omega) only [jset_k, jset_j, jset_same, true_and, and_true, Int.reduceAdd]
                       first | omega | exact h
                     · exact hI.2.2.1.2.1.fr hI.2.1.2.1 (by omega) (fun k j a b => by show _ = M (1 + k) j; unfold cv; simp (disch := omega) only [jset_k, jset_j, jset_same, true_and, and_true]) (fun i a b => by simp (disch := omega) only [jset_k, jset_j, jset_same, true_and, and_true])
                     · exact hI.2.2.1.2.2.1.fr hI.2.1.2.2.1 (by omega) (fun k j a b => by show _ = M (1 + k) j; unfold cv; simp (disch := omega) only [jset_k, jset_j, jset_same, true_and, and_true]) (fun i a b => by simp (disch := omega) only [jset_k, jset_j, jset_same, true_and, and_true])
                     · exact hI.2.2.1.2.2.2.1.fr (by omega) (fun k j a b => by show _ = M (1 + k) j; unfold cv; simp (disch := omega) only [jset_k, jset_j, jset_same, true_and, and_true]) (fun i a b => by simp (disch := omega) only [jset_k, jset_j, jset_same, true_and, and_true])
                     · exact hI.2.2.1.2.2.2.2.1.fr (by omega) (fun k j a b => by show _ = M (1 + k) j; unfold cv; simp (disch := omega) only [jset_k, jset_j, jset_same, true_and, and_true]) (fun i a b => by simp (disch := omega) only [jset_k, jset_j, jset_same, true_and, and_true]) (fun i a b => by simp (disch := omega) only [jset_k, jset_j, jset_same, true_and, and_true])
                     · exact hI.2.2.1.2.2.2.2.2.1.fr (by omega) (fun k j a b => by show _ = M (1 + k) j; unfold cv; simp (disch := omega) only [jset_k, jset_j, jset_same, true_and, and_true]) (fun i a b => by simp (disch := omega) only [jset_k, jset_j, jset_same, true_and, and_true]) (fun i a b => by simp (disch := omega) only [jset_k, jset_j, jset_same, true_and, and_true])
                     · exact hI.2.2.1.2.2.2.2.2.2.1.fr (by omega) (fun k j a b => by show _ = M (1 + k) j; unfold cv; simp (disch := omega) only [jset_k, jset_j, jset_same, true_and, and_true]) (fun i a b => by simp (disch := omega) only [jset_k, jset_j, jset_same, true_and, and_true]) (fun i a b => by simp (disch := omega) only [jset_k, jset_j, jset_same, true_and, and_true])
                     · exact hI.2.2.1.2.2.2.2.2.2.2.1.fr (by omega) (fun k j a b => by show _ = M (1 + k) j; unfold cv; simp (disch := omega) only [jset_k, jset_j, jset_same, true_and, and_true]) (fun i a b => by simp (disch := omega) only [jset_k, jset_j, jset_same, true_and, and_true])
                     · exact hI.2.2.1.2.2.2.2.2.2.2.2.1.fr (fun k j a b => by show _ = M (1 + k) j; unfold cv; simp (disch := omega) only [jset_k, jset_j, jset_same, true_and, and_true]) (fun i a b => by simp (disch := omega) only [jset_k, jset_j, jset_same, true_and, and_true])
                     · exact hI.2.2.1.2.2.2.2.2.2.2.2.2.1.fr (fun k j a b => by show _ = M (1 + k) j; unfold cv; simp (disch := omega) only [jset_k, jset_j, jset_same, true_and, and_true]) (fun i a b => by simp (disch := omega) only [jset_k, jset_j, jset_same, true_and, and_true])
                     · intro k h0 h1
                       simp (disch := omega) only [jset_k, jset_j, jset_same, true_and, and_true] at h1
                       simp only [cv1, Int.reduceAdd]
                       by_cases e : k < M 929 3895
                       · have h := hC.ls h0 e
                         simp (disch := omega) only [jset_k, jset_j, jset_same, true_and, and_true]
                         exact h
                       · have e2 : k = M 929 3895 := by omega
                         subst e2
                         simp (disch := omega) only [jset_k, jset_j, jset_same, true_and, and_true]
                         all_goals (first | omega | simp)
                     · exact hI.2.2.1.2.2.2.2.2.2.2.2.2.2.2.fr hI.2.1.2.2.2.2.2.2.2.2.2.2 (fun k j a b => by show _ = M (1 + k) j; unfold cv; simp (disch := omega) only [jset_k, jset_j, jset_same, true_and, and_true]) (fun i a b => by simp (disch := omega) only [jset_k, jset_j, jset_same, true_and, and_true])))
      · skip
        refine e_bipush 42 dX11_list_40 (by decide) rfl ?_
        refine e_iret dX11_list_42 ?_
        refine jCt_of mt_yX12_list (Nat.le_of_ble_eq_true rfl) (fun X2 => ?_)
        refine e_aload_n (i := 0) 1 dX12_list_0 rfl rfl rfl ?_
        refine e_iconst 2 dX12_list_1 rfl ?_
        refine e_put0 (j := 0) 5 fl_12_1 dX12_list_2 at_928 rfl rfl rfl (by decide) hI.1 rfl ?_
        refine e_aload_n (i := 0) 6 dX12_list_5 rfl rfl rfl ?_
        refine e_iload_n (i := 1) 7 dX12_list_6 rfl rfl rfl ?_
        refine e_callV 10 mt_yX12_isKind mv_yX12_isKind wd_1619 (by decide) dX12_list_7 at_928 jc_12 rfl rfl rfl (Nat.le_of_ble_eq_true rfl) (jroom (by decide)) rfl (m_isKind (by omega) (fun w7 => ?_) (fun w7 => ?_))
        · dsimp only [jpush]
          first
           | (exfalso; omega)
           | (skip
              refine e_if_ne 13 16 dX12_list_10 (by decide) (by decide) rfl (fun _ => ?_) (fun h => absurd h (by decide))
              refine e_iload_n (i := 2) 17 dX12_list_16 rfl rfl rfl ?_
              refine e_i2l 18 dX12_list_17 (by omega) rfl ?_
              refine e_lconst0 19 dX12_list_18 rfl ?_
              refine e_ldc2 (z := (300)) 22 (ix := 200) wd_1483 (by decide) dX12_list_19 rfl ?_
              refine e_callS 25 mt_yX12_within ms_yX12_within wd_1390 (by decide) dX12_list_22 rfl rfl (Nat.le_of_ble_eq_true rfl) (jroom (by decide)) rfl (m_within (by omega) (by omega) (by omega) (fun w22 => ?_) (fun w22 => ?_))
              · dsimp only [jpush]
                first
                 | (exfalso; omega)
                 | (skip
                    refine e_if_ne 28 31 dX12_list_25 (by decide) (by decide) rfl (fun _ => ?_) (fun h => absurd h (by decide))
                    refine e_aload_n (i := 0) 32 dX12_list_31 rfl rfl rfl ?_
                    refine e_getr (j := 1) 35 fl_12_13 dX12_list_32 at_928 rfl rfl tp_928_1 rfl ?_
                    refine e_sipush 38 dX12_list_35 (by decide) rfl ?_
                    refine e_iald 39 dX12_list_38 ar_929 (by decide) (by decide) rfl (fun r38 => ?_)
                    refine e_istore_n (i := 3) (lsn := [(3, _), (0, _), (1, _), (2, _)]) 40 dX12_list_39 rfl (by decide) rfl rfl ?_
                    refine e_iload_n (i := 3) 41 dX12_list_40 rfl rfl rfl ?_
                    refine e_bipush 43 dX12_list_41 (by decide) rfl ?_
                    refine e_icmp_ne 46 49 dX12_list_43 (by omega) (by decide) (by decide) rfl (fun b43 => ?_) (fun b43 => ?_)
                    · first
                       | (exfalso; omega)
                       | (skip
                          refine e_aload_n (i := 0) 50 dX12_list_49 rfl rfl rfl ?_
                          refine e_getr (j := 1) 53 fl_12_13 dX12_list_50 at_928 rfl rfl tp_928_1 rfl ?_
                          refine e_sipush 56 dX12_list_53 (by decide) rfl ?_
                          refine e_iload_n (i := 3) 57 dX12_list_56 rfl rfl rfl ?_
                          refine e_iadd 58 dX12_list_57 rfl ?_
                          refine e_iload_n (i := 1) 59 dX12_list_58 rfl rfl rfl ?_
                          refine e_iast 60 dX12_list_59 ar_929 (by omega) (by omega) (by omega) rfl ?_
                          refine e_aload_n (i := 0) 61 dX12_list_60 rfl rfl rfl ?_
                          refine e_getr (j := 1) 64 fl_12_13 dX12_list_61 at_928 rfl rfl tp_928_1 rfl ?_
                          refine e_sipush 67 dX12_list_64 (by decide) rfl ?_
                          refine e_iload_n (i := 3) 68 dX12_list_67 rfl rfl rfl ?_
                          refine e_iadd 69 dX12_list_68 rfl ?_
                          refine e_iload_n (i := 2) 70 dX12_list_69 rfl rfl rfl ?_
                          refine e_iast 71 dX12_list_70 ar_929 (by omega) (by omega) (by omega) rfl ?_
                          refine e_aload_n (i := 0) 72 dX12_list_71 rfl rfl rfl ?_
                          refine e_getr (j := 1) 75 fl_12_13 dX12_list_72 at_928 rfl rfl tp_928_1 rfl ?_
                          refine e_sipush 78 dX12_list_75 (by decide) rfl ?_
                          refine e_dup2 79 dX12_list_78 rfl rfl rfl ?_
                          refine e_iald 80 dX12_list_79 ar_929 (by decide) (by decide) rfl (fun r79 => ?_)
                          simp (disch := omega) only [jset_k, jset_j, jset_same, true_and, and_true] at r79 ⊢
                          refine e_iconst 81 dX12_list_80 rfl ?_
                          refine e_iadd 82 dX12_list_81 rfl ?_
                          refine e_iast 83 dX12_list_82 ar_929 (by decide) (by decide) (by omega) rfl ?_
                          refine e_iload_n (i := 3) 84 dX12_list_83 rfl rfl rfl ?_
                          refine e_iret dX12_list_84 ?_
                          first
                            | (exact ⟨by omega, hI⟩)
                            | (exfalso; omega)
                            | (refine ⟨by omega, ?_⟩
                               simp only [hn.2.2.2.2.2.1]
                               refine hI.live ?_ ?_ ?_
                               · repeat (first | exact Live.rf | refine Live.c ?_ (by omega) | refine Live.r ?_ (by omega) | refine Live.s ?_ (by omega))
                               · refine ⟨?_, ?_, ?_, ?_, ?_, ?_, ?_, ?_, ?_, ?_, ?_⟩
                                 · have h := hI.2.1.1
                                   unfold RCnt at h ⊢
                                   simp (disch := omega) only [jset_k, jset_j, jset_same, true_and, and_true]
                                   omega
                                 · exact hI.2.1.2.1.fr (fun i a b => by simp (disch := omega) only [jset_k, jset_j, jset_same, true_and, and_true])
                                 · exact hI.2.1.2.2.1.fr (fun i a b => by simp (disch := omega) only [jset_k, jset_j, jset_same, true_and, and_true])
                                 · exact hI.2.1.2.2.2.1.fr (by omega) (fun i a b => by simp (disch := omega) only [jset_k, jset_j, jset_same, true_and, and_true])
                                 · exact hI.2.1.2.2.2.2.1.fr (by omega) (fun i a b => by simp (disch := omega) only [jset_k, jset_j, jset_same, true_and, and_true]) (fun i a b => by simp (disch := omega) only [jset_k, jset_j, jset_same, true_and, and_true])
                                 · exact hI.2.1.2.2.2.2.2.1.fr (by omega) (fun i a b => by simp (disch := omega) only [jset_k, jset_j, jset_same, true_and, and_true]) (fun i a b => by simp (disch := omega) only [jset_k, jset_j, jset_same, true_and, and_true]) (by simp (disch := omega) only [jset_k, jset_j, jset_same, true_and, and_true]; omega)
                                 · exact hI.2.1.2.2.2.2.2.2.1.fr (by omega) (by simp (disch := omega) only [jset_k, jset_j, jset_same, true_and, and_true]) (fun i a b => by simp (disch := omega) only [jset_k, jset_j, jset_same, true_and, and_true])
                                 · exact hI.2.1.2.2.2.2.2.2.2.1.fr (by omega) (fun i a b => by simp (disch := omega) only [jset_k, jset_j, jset_same, true_and, and_true]) (fun i a b => by simp (disch := omega) only [jset_k, jset_j, jset_same, true_and, and_true]) (by simp (disch := omega) only [jset_k, jset_j, jset_same, true_and, and_true]; omega)
                                 · exact hI.2.1.2.2.2.2.2.2.2.2.1.fr (by omega) (fun i a b => by simp (disch := omega) only [jset_k, jset_j, jset_same, true_and, and_true])
                                 · exact hI.2.1.2.2.2.2.2.2.2.2.2.1.fr (fun i a b => by simp (disch := omega) only [jset_k, jset_j, jset_same, true_and, and_true])
                                 · exact hI.2.1.2.2.2.2.2.2.2.2.2.2.fr (fun i a b => by simp (disch := omega) only [jset_k, jset_j, jset_same, true_and, and_true])
                               · refine ⟨?_, ?_, ?_, ?_, ?_, ?_, ?_, ?_, ?_, ?_, ?_, ?_⟩
                                 · have h := hC.cnt
                                   unfold CCnt cv
                                   simp (disch := omega) only [jset_k, jset_j, jset_same, true_and, and_true, Int.reduceAdd]
                                   first | omega | exact h
                                 · exact hI.2.2.1.2.1.fr hI.2.1.2.1 (by omega) (fun k j a b => by show _ = M (1 + k) j; unfold cv; simp (disch := omega) only [jset_k, jset_j, jset_same, true_and, and_true]) (fun i a b => by simp (disch := omega) only [jset_k, jset_j, jset_same, true_and, and_true])
                                 · exact hI.2.2.1.2.2.1.fr hI.2.1.2.2.1 (by omega) (fun k j a b => by show _ = M (1 + k) j; unfold cv; simp (disch := omega) only [jset_k, jset_j, jset_same, true_and, and_true]) (fun i a b => by simp (disch := omega) only [jset_k, jset_j, jset_same, true_and, and_true])
                                 · exact hI.2.2.1.2.2.2.1.fr (by omega) (fun k j a b => by show _ = M (1 + k) j; unfold cv; simp (disch := omega) only [jset_k, jset_j, jset_same, true_and, and_true]) (fun i a b => by simp (disch := omega) only [jset_k, jset_j, jset_same, true_and, and_true])
                                 · exact hI.2.2.1.2.2.2.2.1.fr (by omega) (fun k j a b => by show _ = M (1 + k) j; unfold cv; simp (disch := omega) only [jset_k, jset_j, jset_same, true_and, and_true]) (fun i a b => by simp (disch := omega) only [jset_k, jset_j, jset_same, true_and, and_true]) (fun i a b => by simp (disch := omega) only [jset_k, jset_j, jset_same, true_and, and_true])
                                 · exact hI.2.2.1.2.2.2.2.2.1.fr (by omega) (fun k j a b => by show _ = M (1 + k) j; unfold cv; simp (disch := omega) only [jset_k, jset_j, jset_same, true_and, and_true]) (fun i a b => by simp (disch := omega) only [jset_k, jset_j, jset_same, true_and, and_true]) (fun i a b => by simp (disch := omega) only [jset_k, jset_j, jset_same, true_and, and_true])
                                 · exact hI.2.2.1.2.2.2.2.2.2.1.fr (by omega) (fun k j a b => by show _ = M (1 + k) j; unfold cv; simp (disch := omega) only [jset_k, jset_j, jset_same, true_and, and_true]) (fun i a b => by simp (disch := omega) only [jset_k, jset_j, jset_same, true_and, and_true]) (fun i a b => by simp (disch := omega) only [jset_k, jset_j, jset_same, true_and, and_true])
                                 · exact hI.2.2.1.2.2.2.2.2.2.2.1.fr (by omega) (fun k j a b => by show _ = M (1 + k) j; unfold cv; simp (disch := omega) only [jset_k, jset_j, jset_same, true_and, and_true]) (fun i a b => by simp (disch := omega) only [jset_k, jset_j, jset_same, true_and, and_true])
                                 · exact hI.2.2.1.2.2.2.2.2.2.2.2.1.fr (fun k j a b => by show _ = M (1 + k) j; unfold cv; simp (disch := omega) only [jset_k, jset_j, jset_same, true_and, and_true]) (fun i a b => by simp (disch := omega) only [jset_k, jset_j, jset_same, true_and, and_true])
                                 · exact hI.2.2.1.2.2.2.2.2.2.2.2.2.1.fr (fun k j a b => by show _ = M (1 + k) j; unfold cv; simp (disch := omega) only [jset_k, jset_j, jset_same, true_and, and_true]) (fun i a b => by simp (disch := omega) only [jset_k, jset_j, jset_same, true_and, and_true])
                                 · intro k h0 h1
                                   simp (disch := omega) only [jset_k, jset_j, jset_same, true_and, and_true] at h1
                                   simp only [cv1, Int.reduceAdd]
                                   by_cases e : k < M 929 3895
                                   · have h := hC.ls h0 e
                                     simp (disch := omega) only [jset_k, jset_j, jset_same, true_and, and_true]
                                     exact h
                                   · have e2 : k = M 929 3895 := by omega
                                     subst e2
                                     simp (disch := omega) only [jset_k, jset_j, jset_same, true_and, and_true]
                                     all_goals (first | omega | simp)
                                 · exact hI.2.2.1.2.2.2.2.2.2.2.2.2.2.2.fr hI.2.1.2.2.2.2.2.2.2.2.2.2 (fun k j a b => by show _ = M (1 + k) j; unfold cv; simp (disch := omega) only [jset_k, jset_j, jset_same, true_and, and_true]) (fun i a b => by simp (disch := omega) only [jset_k, jset_j, jset_same, true_and, and_true])))
                    · first
                       | (exfalso; omega)
                       | (skip
                          refine e_bipush 48 dX12_list_46 (by decide) rfl ?_
                          refine e_iret dX12_list_48 ?_
                          first
                            | (exact ⟨by omega, hI⟩)
                            | (exfalso; omega)))
              · dsimp only [jpush]
                first
                 | (exfalso; omega)
                 | (skip
                    refine e_if_ne 28 31 dX12_list_25 (by decide) (by decide) rfl (fun h => absurd h (by decide)) (fun _ => ?_)
                    refine e_bipush 30 dX12_list_28 (by decide) rfl ?_
                    refine e_iret dX12_list_30 ?_
                    first
                      | (exact ⟨by omega, hI⟩)
                      | (exfalso; omega)))
        · dsimp only [jpush]
          first
           | (exfalso; omega)
           | (skip
              refine e_if_ne 13 16 dX12_list_10 (by decide) (by decide) rfl (fun h => absurd h (by decide)) (fun _ => ?_)
              refine e_bipush 15 dX12_list_13 (by decide) rfl ?_
              refine e_iret dX12_list_15 ?_
              first
                | (exact ⟨by omega, hI⟩)
                | (exfalso; omega))
    · dsimp only [jpush]
      refine e_if_ne 25 28 dX11_list_22 (by decide) (by decide) rfl (fun h => absurd h (by decide)) (fun _ => ?_)
      refine e_bipush 27 dX11_list_25 (by decide) rfl ?_
      refine e_iret dX11_list_27 ?_
      refine jCt_of mt_yX12_list (Nat.le_of_ble_eq_true rfl) (fun X2 => ?_)
      refine e_aload_n (i := 0) 1 dX12_list_0 rfl rfl rfl ?_
      refine e_iconst 2 dX12_list_1 rfl ?_
      refine e_put0 (j := 0) 5 fl_12_1 dX12_list_2 at_928 rfl rfl rfl (by decide) hI.1 rfl ?_
      refine e_aload_n (i := 0) 6 dX12_list_5 rfl rfl rfl ?_
      refine e_iload_n (i := 1) 7 dX12_list_6 rfl rfl rfl ?_
      refine e_callV 10 mt_yX12_isKind mv_yX12_isKind wd_1619 (by decide) dX12_list_7 at_928 jc_12 rfl rfl rfl (Nat.le_of_ble_eq_true rfl) (jroom (by decide)) rfl (m_isKind (by omega) (fun w7 => ?_) (fun w7 => ?_))
      · dsimp only [jpush]
        first
         | (exfalso; omega)
         | (skip
            refine e_if_ne 13 16 dX12_list_10 (by decide) (by decide) rfl (fun _ => ?_) (fun h => absurd h (by decide))
            refine e_iload_n (i := 2) 17 dX12_list_16 rfl rfl rfl ?_
            refine e_i2l 18 dX12_list_17 (by omega) rfl ?_
            refine e_lconst0 19 dX12_list_18 rfl ?_
            refine e_ldc2 (z := (300)) 22 (ix := 200) wd_1483 (by decide) dX12_list_19 rfl ?_
            refine e_callS 25 mt_yX12_within ms_yX12_within wd_1390 (by decide) dX12_list_22 rfl rfl (Nat.le_of_ble_eq_true rfl) (jroom (by decide)) rfl (m_within (by omega) (by omega) (by omega) (fun w22 => ?_) (fun w22 => ?_))
            · dsimp only [jpush]
              first
               | (exfalso; omega)
               | (skip
                  refine e_if_ne 28 31 dX12_list_25 (by decide) (by decide) rfl (fun _ => ?_) (fun h => absurd h (by decide))
                  refine e_aload_n (i := 0) 32 dX12_list_31 rfl rfl rfl ?_
                  refine e_getr (j := 1) 35 fl_12_13 dX12_list_32 at_928 rfl rfl tp_928_1 rfl ?_
                  refine e_sipush 38 dX12_list_35 (by decide) rfl ?_
                  refine e_iald 39 dX12_list_38 ar_929 (by decide) (by decide) rfl (fun r38 => ?_)
                  refine e_istore_n (i := 3) (lsn := [(3, _), (0, _), (1, _), (2, _)]) 40 dX12_list_39 rfl (by decide) rfl rfl ?_
                  refine e_iload_n (i := 3) 41 dX12_list_40 rfl rfl rfl ?_
                  refine e_bipush 43 dX12_list_41 (by decide) rfl ?_
                  refine e_icmp_ne 46 49 dX12_list_43 (by omega) (by decide) (by decide) rfl (fun b43 => ?_) (fun b43 => ?_)
                  · first
                     | (exfalso; omega)
                     | (skip
                        refine e_aload_n (i := 0) 50 dX12_list_49 rfl rfl rfl ?_
                        refine e_getr (j := 1) 53 fl_12_13 dX12_list_50 at_928 rfl rfl tp_928_1 rfl ?_
                        refine e_sipush 56 dX12_list_53 (by decide) rfl ?_
                        refine e_iload_n (i := 3) 57 dX12_list_56 rfl rfl rfl ?_
                        refine e_iadd 58 dX12_list_57 rfl ?_
                        refine e_iload_n (i := 1) 59 dX12_list_58 rfl rfl rfl ?_
                        refine e_iast 60 dX12_list_59 ar_929 (by omega) (by omega) (by omega) rfl ?_
                        refine e_aload_n (i := 0) 61 dX12_list_60 rfl rfl rfl ?_
                        refine e_getr (j := 1) 64 fl_12_13 dX12_list_61 at_928 rfl rfl tp_928_1 rfl ?_
                        refine e_sipush 67 dX12_list_64 (by decide) rfl ?_
                        refine e_iload_n (i := 3) 68 dX12_list_67 rfl rfl rfl ?_
                        refine e_iadd 69 dX12_list_68 rfl ?_
                        refine e_iload_n (i := 2) 70 dX12_list_69 rfl rfl rfl ?_
                        refine e_iast 71 dX12_list_70 ar_929 (by omega) (by omega) (by omega) rfl ?_
                        refine e_aload_n (i := 0) 72 dX12_list_71 rfl rfl rfl ?_
                        refine e_getr (j := 1) 75 fl_12_13 dX12_list_72 at_928 rfl rfl tp_928_1 rfl ?_
                        refine e_sipush 78 dX12_list_75 (by decide) rfl ?_
                        refine e_dup2 79 dX12_list_78 rfl rfl rfl ?_
                        refine e_iald 80 dX12_list_79 ar_929 (by decide) (by decide) rfl (fun r79 => ?_)
                        simp (disch := omega) only [jset_k, jset_j, jset_same, true_and, and_true] at r79 ⊢
                        refine e_iconst 81 dX12_list_80 rfl ?_
                        refine e_iadd 82 dX12_list_81 rfl ?_
                        refine e_iast 83 dX12_list_82 ar_929 (by decide) (by decide) (by omega) rfl ?_
                        refine e_iload_n (i := 3) 84 dX12_list_83 rfl rfl rfl ?_
                        refine e_iret dX12_list_84 ?_
                        first
                          | (exact ⟨by omega, hI⟩)
                          | (exfalso; omega)
                          | (refine ⟨by omega, ?_⟩
                             simp only [hn.2.2.2.2.2.1]
                             refine hI.live ?_ ?_ ?_
                             · repeat (first | exact Live.rf | refine Live.c ?_ (by omega) | refine Live.r ?_ (by omega) | refine Live.s ?_ (by omega))
                             · refine ⟨?_, ?_, ?_, ?_, ?_, ?_, ?_, ?_, ?_, ?_, ?_⟩
                               · have h := hI.2.1.1
                                 unfold RCnt at h ⊢
                                 simp (disch := omega) only [jset_k, jset_j, jset_same, true_and, and_true]
                                 omega
                               · exact hI.2.1.2.1.fr (fun i a b => by simp (disch := omega) only [jset_k, jset_j, jset_same, true_and, and_true])
                               · exact hI.2.1.2.2.1.fr (fun i a b => by simp (disch := omega) only [jset_k, jset_j, jset_same, true_and, and_true])
                               · exact hI.2.1.2.2.2.1.fr (by omega) (fun i a b => by simp (disch := omega) only [jset_k, jset_j, jset_same, true_and, and_true])
                               · exact hI.2.1.2.2.2.2.1.fr (by omega) (fun i a b => by simp (disch := omega) only [jset_k, jset_j, jset_same, true_and, and_true]) (fun i a b => by simp (disch := omega) only [jset_k, jset_j, jset_same, true_and, and_true])
                               · exact hI.2.1.2.2.2.2.2.1.fr (by omega) (fun i a b => by simp (disch := omega) only [jset_k, jset_j, jset_same, true_and, and_true]) (fun i a b => by simp (disch := omega) only [jset_k, jset_j, jset_same, true_and, and_true]) (by simp (disch := omega) only [jset_k, jset_j, jset_same, true_and, and_true]; omega)
                               · exact hI.2.1.2.2.2.2.2.2.1.fr (by omega) (by simp (disch := omega) only [jset_k, jset_j, jset_same, true_and, and_true]) (fun i a b => by simp (disch := omega) only [jset_k, jset_j, jset_same, true_and, and_true])
                               · exact hI.2.1.2.2.2.2.2.2.2.1.fr (by omega) (fun i a b => by simp (disch := omega) only [jset_k, jset_j, jset_same, true_and, and_true]) (fun i a b => by simp (disch := omega) only [jset_k, jset_j, jset_same, true_and, and_true]) (by simp (disch := omega) only [jset_k, jset_j, jset_same, true_and, and_true]; omega)
                               · exact hI.2.1.2.2.2.2.2.2.2.2.1.fr (by omega) (fun i a b => by simp (disch := omega) only [jset_k, jset_j, jset_same, true_and, and_true])
                               · exact hI.2.1.2.2.2.2.2.2.2.2.2.1.fr (fun i a b => by simp (disch := omega) only [jset_k, jset_j, jset_same, true_and, and_true])
                               · exact hI.2.1.2.2.2.2.2.2.2.2.2.2.fr (fun i a b => by simp (disch := omega) only [jset_k, jset_j, jset_same, true_and, and_true])
                             · refine ⟨?_, ?_, ?_, ?_, ?_, ?_, ?_, ?_, ?_, ?_, ?_, ?_⟩
                               · have h := hC.cnt
                                 unfold CCnt cv
                                 simp (disch := omega) only [jset_k, jset_j, jset_same, true_and, and_true, Int.reduceAdd]
                                 first | omega | exact h
                               · exact hI.2.2.1.2.1.fr hI.2.1.2.1 (by omega) (fun k j a b => by show _ = M (1 + k) j; unfold cv; simp (disch := omega) only [jset_k, jset_j, jset_same, true_and, and_true]) (fun i a b => by simp (disch := omega) only [jset_k, jset_j, jset_same, true_and, and_true])
                               · exact hI.2.2.1.2.2.1.fr hI.2.1.2.2.1 (by omega) (fun k j a b => by show _ = M (1 + k) j; unfold cv; simp (disch := omega) only [jset_k, jset_j, jset_same, true_and, and_true]) (fun i a b => by simp (disch := omega) only [jset_k, jset_j, jset_same, true_and, and_true])
                               · exact hI.2.2.1.2.2.2.1.fr (by omega) (fun k j a b => by show _ = M (1 + k) j; unfold cv; simp (disch := omega) only [jset_k, jset_j, jset_same, true_and, and_true]) (fun i a b => by simp (disch := omega) only [jset_k, jset_j, jset_same, true_and, and_true])
                               · exact hI.2.2.1.2.2.2.2.1.fr (by omega) (fun k j a b => by show _ = M (1 + k) j; unfold cv; simp (disch := omega) only [jset_k, jset_j, jset_same, true_and, and_true]) (fun i a b => by simp (disch := omega) only [jset_k, jset_j, jset_same, true_and, and_true]) (fun i a b => by simp (disch := omega) only [jset_k, jset_j, jset_same, true_and, and_true])
                               · exact hI.2.2.1.2.2.2.2.2.1.fr (by omega) (fun k j a b => by show _ = M (1 + k) j; unfold cv; simp (disch := omega) only [jset_k, jset_j, jset_same, true_and, and_true]) (fun i a b => by simp (disch := omega) only [jset_k, jset_j, jset_same, true_and, and_true]) (fun i a b => by simp (disch := omega) only [jset_k, jset_j, jset_same, true_and, and_true])
                               · exact hI.2.2.1.2.2.2.2.2.2.1.fr (by omega) (fun k j a b => by show _ = M (1 + k) j; unfold cv; simp (disch := omega) only [jset_k, jset_j, jset_same, true_and, and_true]) (fun i a b => by simp (disch := omega) only [jset_k, jset_j, jset_same, true_and, and_true]) (fun i a b => by simp (disch := omega) only [jset_k, jset_j, jset_same, true_and, and_true])
                               · exact hI.2.2.1.2.2.2.2.2.2.2.1.fr (by omega) (fun k j a b => by show _ = M (1 + k) j; unfold cv; simp (disch := omega) only [jset_k, jset_j, jset_same, true_and, and_true]) (fun i a b => by simp (disch := omega) only [jset_k, jset_j, jset_same, true_and, and_true])
                               · exact hI.2.2.1.2.2.2.2.2.2.2.2.1.fr (fun k j a b => by show _ = M (1 + k) j; unfold cv; simp (disch := omega) only [jset_k, jset_j, jset_same, true_and, and_true]) (fun i a b => by simp (disch := omega) only [jset_k, jset_j, jset_same, true_and, and_true])
                               · exact hI.2.2.1.2.2.2.2.2.2.2.2.2.1.fr (fun k j a b => by show _ = M (1 + k) j; unfold cv; simp (disch := omega) only [jset_k, jset_j, jset_same, true_and, and_true]) (fun i a b => by simp (disch := omega) only [jset_k, jset_j, jset_same, true_and, and_true])
                               · intro k h0 h1
                                 simp (disch := omega) only [jset_k, jset_j, jset_same, true_and, and_true] at h1
                                 simp only [cv1, Int.reduceAdd]
                                 by_cases e : k < M 929 3895
                                 · have h := hC.ls h0 e
                                   simp (disch := omega) only [jset_k, jset_j, jset_same, true_and, and_true]
                                   exact h
                                 · have e2 : k = M 929 3895 := by omega
                                   subst e2
                                   simp (disch := omega) only [jset_k, jset_j, jset_same, true_and, and_true]
                                   all_goals (first | omega | simp)
                               · exact hI.2.2.1.2.2.2.2.2.2.2.2.2.2.2.fr hI.2.1.2.2.2.2.2.2.2.2.2.2 (fun k j a b => by show _ = M (1 + k) j; unfold cv; simp (disch := omega) only [jset_k, jset_j, jset_same, true_and, and_true]) (fun i a b => by simp (disch := omega) only [jset_k, jset_j, jset_same, true_and, and_true])))
                  · first
                     | (exfalso; omega)
                     | (skip
                        refine e_bipush 48 dX12_list_46 (by decide) rfl ?_
                        refine e_iret dX12_list_48 ?_
                        first
                          | (exact ⟨by omega, hI⟩)
                          | (exfalso; omega)))
            · dsimp only [jpush]
              first
               | (exfalso; omega)
               | (skip
                  refine e_if_ne 28 31 dX12_list_25 (by decide) (by decide) rfl (fun h => absurd h (by decide)) (fun _ => ?_)
                  refine e_bipush 30 dX12_list_28 (by decide) rfl ?_
                  refine e_iret dX12_list_30 ?_
                  first
                    | (exact ⟨by omega, hI⟩)
                    | (exfalso; omega)))
      · dsimp only [jpush]
        first
         | (exfalso; omega)
         | (skip
            refine e_if_ne 13 16 dX12_list_10 (by decide) (by decide) rfl (fun h => absurd h (by decide)) (fun _ => ?_)
            refine e_bipush 15 dX12_list_13 (by decide) rfl ?_
            refine e_iret dX12_list_15 ?_
            first
              | (exact ⟨by omega, hI⟩)
              | (exfalso; omega))
  · dsimp only [jpush]
    refine e_if_ne 11 14 dX11_list_8 (by decide) (by decide) rfl (fun h => absurd h (by decide)) (fun _ => ?_)
    refine e_bipush 13 dX11_list_11 (by decide) rfl ?_
    refine e_iret dX11_list_13 ?_
    refine jCt_of mt_yX12_list (Nat.le_of_ble_eq_true rfl) (fun X2 => ?_)
    refine e_aload_n (i := 0) 1 dX12_list_0 rfl rfl rfl ?_
    refine e_iconst 2 dX12_list_1 rfl ?_
    refine e_put0 (j := 0) 5 fl_12_1 dX12_list_2 at_928 rfl rfl rfl (by decide) hI.1 rfl ?_
    refine e_aload_n (i := 0) 6 dX12_list_5 rfl rfl rfl ?_
    refine e_iload_n (i := 1) 7 dX12_list_6 rfl rfl rfl ?_
    refine e_callV 10 mt_yX12_isKind mv_yX12_isKind wd_1619 (by decide) dX12_list_7 at_928 jc_12 rfl rfl rfl (Nat.le_of_ble_eq_true rfl) (jroom (by decide)) rfl (m_isKind (by omega) (fun w7 => ?_) (fun w7 => ?_))
    · dsimp only [jpush]
      first
       | (exfalso; omega)
       | (skip
          refine e_if_ne 13 16 dX12_list_10 (by decide) (by decide) rfl (fun _ => ?_) (fun h => absurd h (by decide))
          refine e_iload_n (i := 2) 17 dX12_list_16 rfl rfl rfl ?_
          refine e_i2l 18 dX12_list_17 (by omega) rfl ?_
          refine e_lconst0 19 dX12_list_18 rfl ?_
          refine e_ldc2 (z := (300)) 22 (ix := 200) wd_1483 (by decide) dX12_list_19 rfl ?_
          refine e_callS 25 mt_yX12_within ms_yX12_within wd_1390 (by decide) dX12_list_22 rfl rfl (Nat.le_of_ble_eq_true rfl) (jroom (by decide)) rfl (m_within (by omega) (by omega) (by omega) (fun w22 => ?_) (fun w22 => ?_))
          · dsimp only [jpush]
            first
             | (exfalso; omega)
             | (skip
                refine e_if_ne 28 31 dX12_list_25 (by decide) (by decide) rfl (fun _ => ?_) (fun h => absurd h (by decide))
                refine e_aload_n (i := 0) 32 dX12_list_31 rfl rfl rfl ?_
                refine e_getr (j := 1) 35 fl_12_13 dX12_list_32 at_928 rfl rfl tp_928_1 rfl ?_
                refine e_sipush 38 dX12_list_35 (by decide) rfl ?_
                refine e_iald 39 dX12_list_38 ar_929 (by decide) (by decide) rfl (fun r38 => ?_)
                refine e_istore_n (i := 3) (lsn := [(3, _), (0, _), (1, _), (2, _)]) 40 dX12_list_39 rfl (by decide) rfl rfl ?_
                refine e_iload_n (i := 3) 41 dX12_list_40 rfl rfl rfl ?_
                refine e_bipush 43 dX12_list_41 (by decide) rfl ?_
                refine e_icmp_ne 46 49 dX12_list_43 (by omega) (by decide) (by decide) rfl (fun b43 => ?_) (fun b43 => ?_)
                · first
                   | (exfalso; omega)
                   | (skip
                      refine e_aload_n (i := 0) 50 dX12_list_49 rfl rfl rfl ?_
                      refine e_getr (j := 1) 53 fl_12_13 dX12_list_50 at_928 rfl rfl tp_928_1 rfl ?_
                      refine e_sipush 56 dX12_list_53 (by decide) rfl ?_
                      refine e_iload_n (i := 3) 57 dX12_list_56 rfl rfl rfl ?_
                      refine e_iadd 58 dX12_list_57 rfl ?_
                      refine e_iload_n (i := 1) 59 dX12_list_58 rfl rfl rfl ?_
                      refine e_iast 60 dX12_list_59 ar_929 (by omega) (by omega) (by omega) rfl ?_
                      refine e_aload_n (i := 0) 61 dX12_list_60 rfl rfl rfl ?_
                      refine e_getr (j := 1) 64 fl_12_13 dX12_list_61 at_928 rfl rfl tp_928_1 rfl ?_
                      refine e_sipush 67 dX12_list_64 (by decide) rfl ?_
                      refine e_iload_n (i := 3) 68 dX12_list_67 rfl rfl rfl ?_
                      refine e_iadd 69 dX12_list_68 rfl ?_
                      refine e_iload_n (i := 2) 70 dX12_list_69 rfl rfl rfl ?_
                      refine e_iast 71 dX12_list_70 ar_929 (by omega) (by omega) (by omega) rfl ?_
                      refine e_aload_n (i := 0) 72 dX12_list_71 rfl rfl rfl ?_
                      refine e_getr (j := 1) 75 fl_12_13 dX12_list_72 at_928 rfl rfl tp_928_1 rfl ?_
                      refine e_sipush 78 dX12_list_75 (by decide) rfl ?_
                      refine e_dup2 79 dX12_list_78 rfl rfl rfl ?_
                      refine e_iald 80 dX12_list_79 ar_929 (by decide) (by decide) rfl (fun r79 => ?_)
                      simp (disch := omega) only [jset_k, jset_j, jset_same, true_and, and_true] at r79 ⊢
                      refine e_iconst 81 dX12_list_80 rfl ?_
                      refine e_iadd 82 dX12_list_81 rfl ?_
                      refine e_iast 83 dX12_list_82 ar_929 (by decide) (by decide) (by omega) rfl ?_
                      refine e_iload_n (i := 3) 84 dX12_list_83 rfl rfl rfl ?_
                      refine e_iret dX12_list_84 ?_
                      first
                        | (exact ⟨by omega, hI⟩)
                        | (exfalso; omega)
                        | (refine ⟨by omega, ?_⟩
                           simp only [hn.2.2.2.2.2.1]
                           refine hI.live ?_ ?_ ?_
                           · repeat (first | exact Live.rf | refine Live.c ?_ (by omega) | refine Live.r ?_ (by omega) | refine Live.s ?_ (by omega))
                           · refine ⟨?_, ?_, ?_, ?_, ?_, ?_, ?_, ?_, ?_, ?_, ?_⟩
                             · have h := hI.2.1.1
                               unfold RCnt at h ⊢
                               simp (disch := omega) only [jset_k, jset_j, jset_same, true_and, and_true]
                               omega
                             · exact hI.2.1.2.1.fr (fun i a b => by simp (disch := omega) only [jset_k, jset_j, jset_same, true_and, and_true])
                             · exact hI.2.1.2.2.1.fr (fun i a b => by simp (disch := omega) only [jset_k, jset_j, jset_same, true_and, and_true])
                             · exact hI.2.1.2.2.2.1.fr (by omega) (fun i a b => by simp (disch := omega) only [jset_k, jset_j, jset_same, true_and, and_true])
                             · exact hI.2.1.2.2.2.2.1.fr (by omega) (fun i a b => by simp (disch := omega) only [jset_k, jset_j, jset_same, true_and, and_true]) (fun i a b => by simp (disch := omega) only [jset_k, jset_j, jset_same, true_and, and_true])
                             · exact hI.2.1.2.2.2.2.2.1.fr (by omega) (fun i a b => by simp (disch := omega) only [jset_k, jset_j, jset_same, true_and, and_true]) (fun i a b => by simp (disch := omega) only [jset_k, jset_j, jset_same, true_and, and_true]) (by simp (disch := omega) only [jset_k, jset_j, jset_same, true_and, and_true]; omega)
                             · exact hI.2.1.2.2.2.2.2.2.1.fr (by omega) (by simp (disch := omega) only [jset_k, jset_j, jset_same, true_and, and_true]) (fun i a b => by simp (disch := omega) only [jset_k, jset_j, jset_same, true_and, and_true])
                             · exact hI.2.1.2.2.2.2.2.2.2.1.fr (by omega) (fun i a b => by simp (disch := omega) only [jset_k, jset_j, jset_same, true_and, and_true]) (fun i a b => by simp (disch := omega) only [jset_k, jset_j, jset_same, true_and, and_true]) (by simp (disch := omega) only [jset_k, jset_j, jset_same, true_and, and_true]; omega)
                             · exact hI.2.1.2.2.2.2.2.2.2.2.1.fr (by omega) (fun i a b => by simp (disch := omega) only [jset_k, jset_j, jset_same, true_and, and_true])
                             · exact hI.2.1.2.2.2.2.2.2.2.2.2.1.fr (fun i a b => by simp (disch := omega) only [jset_k, jset_j, jset_same, true_and, and_true])
                             · exact hI.2.1.2.2.2.2.2.2.2.2.2.2.fr (fun i a b => by simp (disch := omega) only [jset_k, jset_j, jset_same, true_and, and_true])
                           · refine ⟨?_, ?_, ?_, ?_, ?_, ?_, ?_, ?_, ?_, ?_, ?_, ?_⟩
                             · have h := hC.cnt
                               unfold CCnt cv
                               simp (disch := omega) only [jset_k, jset_j, jset_same, true_and, and_true, Int.reduceAdd]
                               first | omega | exact h
                             · exact hI.2.2.1.2.1.fr hI.2.1.2.1 (by omega) (fun k j a b => by show _ = M (1 + k) j; unfold cv; simp (disch := omega) only [jset_k, jset_j, jset_same, true_and, and_true]) (fun i a b => by simp (disch := omega) only [jset_k, jset_j, jset_same, true_and, and_true])
                             · exact hI.2.2.1.2.2.1.fr hI.2.1.2.2.1 (by omega) (fun k j a b => by show _ = M (1 + k) j; unfold cv; simp (disch := omega) only [jset_k, jset_j, jset_same, true_and, and_true]) (fun i a b => by simp (disch := omega) only [jset_k, jset_j, jset_same, true_and, and_true])
                             · exact hI.2.2.1.2.2.2.1.fr (by omega) (fun k j a b => by show _ = M (1 + k) j; unfold cv; simp (disch := omega) only [jset_k, jset_j, jset_same, true_and, and_true]) (fun i a b => by simp (disch := omega) only [jset_k, jset_j, jset_same, true_and, and_true])
                             · exact hI.2.2.1.2.2.2.2.1.fr (by omega) (fun k j a b => by show _ = M (1 + k) j; unfold cv; simp (disch := omega) only [jset_k, jset_j, jset_same, true_and, and_true]) (fun i a b => by simp (disch := omega) only [jset_k, jset_j, jset_same, true_and, and_true]) (fun i a b => by simp (disch := omega) only [jset_k, jset_j, jset_same, true_and, and_true])
                             · exact hI.2.2.1.2.2.2.2.2.1.fr (by omega) (fun k j a b => by show _ = M (1 + k) j; unfold cv; simp (disch := omega) only [jset_k, jset_j, jset_same, true_and, and_true]) (fun i a b => by simp (disch := omega) only [jset_k, jset_j, jset_same, true_and, and_true]) (fun i a b => by simp (disch := omega) only [jset_k, jset_j, jset_same, true_and, and_true])
                             · exact hI.2.2.1.2.2.2.2.2.2.1.fr (by omega) (fun k j a b => by show _ = M (1 + k) j; unfold cv; simp (disch := omega) only [jset_k, jset_j, jset_same, true_and, and_true]) (fun i a b => by simp (disch := omega) only [jset_k, jset_j, jset_same, true_and, and_true]) (fun i a b => by simp (disch := omega) only [jset_k, jset_j, jset_same, true_and, and_true])
                             · exact hI.2.2.1.2.2.2.2.2.2.2.1.fr (by omega) (fun k j a b => by show _ = M (1 + k) j; unfold cv; simp (disch := omega) only [jset_k, jset_j, jset_same, true_and, and_true]) (fun i a b => by simp (disch := omega) only [jset_k, jset_j, jset_same, true_and, and_true])
                             · exact hI.2.2.1.2.2.2.2.2.2.2.2.1.fr (fun k j a b => by show _ = M (1 + k) j; unfold cv; simp (disch := omega) only [jset_k, jset_j, jset_same, true_and, and_true]) (fun i a b => by simp (disch := omega) only [jset_k, jset_j, jset_same, true_and, and_true])
                             · exact hI.2.2.1.2.2.2.2.2.2.2.2.2.1.fr (fun k j a b => by show _ = M (1 + k) j; unfold cv; simp (disch := omega) only [jset_k, jset_j, jset_same, true_and, and_true]) (fun i a b => by simp (disch := omega) only [jset_k, jset_j, jset_same, true_and, and_true])
                             · intro k h0 h1
                               simp (disch := omega) only [jset_k, jset_j, jset_same, true_and, and_true] at h1
                               simp only [cv1, Int.reduceAdd]
                               by_cases e : k < M 929 3895
                               · have h := hC.ls h0 e
                                 simp (disch := omega) only [jset_k, jset_j, jset_same, true_and, and_true]
                                 exact h
                               · have e2 : k = M 929 3895 := by omega
                                 subst e2
                                 simp (disch := omega) only [jset_k, jset_j, jset_same, true_and, and_true]
                                 all_goals (first | omega | simp)
                             · exact hI.2.2.1.2.2.2.2.2.2.2.2.2.2.2.fr hI.2.1.2.2.2.2.2.2.2.2.2.2 (fun k j a b => by show _ = M (1 + k) j; unfold cv; simp (disch := omega) only [jset_k, jset_j, jset_same, true_and, and_true]) (fun i a b => by simp (disch := omega) only [jset_k, jset_j, jset_same, true_and, and_true])))
                · first
                   | (exfalso; omega)
                   | (skip
                      refine e_bipush 48 dX12_list_46 (by decide) rfl ?_
                      refine e_iret dX12_list_48 ?_
                      first
                        | (exact ⟨by omega, hI⟩)
                        | (exfalso; omega)))
          · dsimp only [jpush]
            first
             | (exfalso; omega)
             | (skip
                refine e_if_ne 28 31 dX12_list_25 (by decide) (by decide) rfl (fun h => absurd h (by decide)) (fun _ => ?_)
                refine e_bipush 30 dX12_list_28 (by decide) rfl ?_
                refine e_iret dX12_list_30 ?_
                first
                  | (exact ⟨by omega, hI⟩)
                  | (exfalso; omega)))
    · dsimp only [jpush]
      first
       | (exfalso; omega)
       | (skip
          refine e_if_ne 13 16 dX12_list_10 (by decide) (by decide) rfl (fun h => absurd h (by decide)) (fun _ => ?_)
          refine e_bipush 15 dX12_list_13 (by decide) rfl ?_
          refine e_iret dX12_list_15 ?_
          first
            | (exact ⟨by omega, hI⟩)
            | (exfalso; omega))

