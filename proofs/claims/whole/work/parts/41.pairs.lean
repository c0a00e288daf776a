/-! LENDING ON A PLEDGE, BOTH SIDES -/
theorem cBegin_o {M : jM} {n k p l w k2 j2 : Int} (hn : 0 ≤ n ∧ n < 60) (h : k2 < 84 ∨ 144 ≤ k2) : cBegin M n k p l w k2 j2 = M k2 j2 := by
  unfold cBegin
  simp (disch := omega) only [jset_k]
def cLend (M : jM) (k p l : Int) : jM := cGive (jset (jset (jset (jset (cBegin M (M 1 10) k p l (M 1 4)) 1 10 (M 1 10 + 1)) (68 + p) 3 (w32 (M (68 + p) 3 + (2 * l - M 6 1)))) (32 + 0) (M 1 4) (w32 (M (32 + 0) (M 1 4) + 2 * l))) (32 + 2) (M 1 4) (w32 (M (32 + 2) (M 1 4) + 1))) (M 1 10) p
def rLend (M : jM) (k p l : Int) : jM := rGive (jset (jset (jset (jset (rBegin M (M 929 709) k p l (M 929 708)) 929 709 (M 929 709 + 1)) 929 (692 + p) (w32 (M 929 (692 + p) + (2 * l - M 929 26)))) 929 (1782 + M 929 708) (w32 (M 929 (1782 + M 929 708) + 2 * l))) 929 (2384 + M 929 708) (w32 (M 929 (2384 + M 929 708) + 1))) (M 929 709) p
theorem c_lendOn {k p l : Int} {M : jM} {Q : Int → jM → Prop} (hk : -2147483648 ≤ k ∧ k ≤ 2147483647) (hp : -2147483648 ≤ p ∧ p ≤ 2147483647) (hl : -2147483648 ≤ l ∧ l ≤ 2147483647) (hr : (0 ≤ M 1 6 ∧ M 1 6 ≤ 12) ∧ (0 ≤ M 1 8 ∧ M 1 8 ≤ 16) ∧ (0 ≤ M 1 10 ∧ M 1 10 ≤ 60) ∧ (0 ≤ M 1 12 ∧ M 1 12 ≤ 150) ∧ (0 ≤ M 1 4 ∧ M 1 4 ≤ 300)) (hO : lOk M 2) (hT : 0 ≤ M 6 1 ∧ M 6 1 ≤ 20) (h2 : (k < 0 ∨ M 1 6 ≤ k ∨ p < 0 ∨ M 1 8 ≤ p) → Q (-2) M) (h3 : (0 ≤ k ∧ k < M 1 6 ∧ 0 ≤ p ∧ p < M 1 8) ∧ (l < 1 ∨ 999 < l) → Q (-3) M) (h4 : (0 ≤ k ∧ k < M 1 6 ∧ 0 ≤ p ∧ p < M 1 8) ∧ (1 ≤ l ∧ l ≤ 999) ∧ (60 ≤ M 1 10 ∨ 150 ≤ M 1 12) → Q (-4) M) (h5 : (0 ≤ k ∧ k < M 1 6 ∧ 0 ≤ p ∧ p < M 1 8) ∧ (1 ≤ l ∧ l ≤ 999) ∧ (M 1 10 < 60 ∧ M 1 12 < 150) ∧ lTop M 2 < l → Q (-5) M) (h0 : (0 ≤ k ∧ k < M 1 6 ∧ 0 ≤ p ∧ p < M 1 8) ∧ (1 ≤ l ∧ l ≤ 999) ∧ (M 1 10 < 60 ∧ M 1 12 < 150) ∧ l ≤ lTop M 2 → Q (tkNum (M 1 12 + 1)) (cLend M k p l)) : jCt yX8_lendOn cX8_lendOn 4 (some .int) 3 [jR 1, jI k, jI p, jI l] M Q := by
  refine jCt_of mt_yX8_lendOn (Nat.le_of_ble_eq_true rfl) (fun X => ?_)
  refine e_aload_n (i := 0) 1 dX8_lendOn_0 rfl rfl rfl ?_
  refine e_iload_n (i := 1) 2 dX8_lendOn_1 rfl rfl rfl ?_
  refine e_callV 5 mt_yX8_hasKind mv_yX8_hasKind wd_778 (by decide) dX8_lendOn_2 at_1 jc_8 rfl rfl rfl (Nat.le_of_ble_eq_true rfl) (jroom (by decide)) rfl (c_hasKind (by (try simp (disch := omega) only [jset_k, jset_j, jset_same, true_and, and_true, cBegin_o, cEnter]); omega) (fun w2 => ?_) (fun w2 => ?_))
  · dsimp only [jpush]
    (try simp (disch := omega) only [jset_k, jset_j, jset_same, true_and, and_true, cBegin_o, cEnter])
    refine e_if_eq 8 16 dX8_lendOn_5 (by decide) (by decide) rfl (fun h => absurd h (by decide)) (fun _ => ?_)
    refine e_aload_n (i := 0) 9 dX8_lendOn_8 rfl rfl rfl ?_
    refine e_iload_n (i := 2) 10 dX8_lendOn_9 rfl rfl rfl ?_
    refine e_callV 13 mt_yX8_hasPerson mv_yX8_hasPerson wd_782 (by decide) dX8_lendOn_10 at_1 jc_8 rfl rfl rfl (Nat.le_of_ble_eq_true rfl) (jroom (by decide)) rfl (c_hasPerson (by (try simp (disch := omega) only [jset_k, jset_j, jset_same, true_and, and_true, cBegin_o, cEnter]); omega) (fun w10 => ?_) (fun w10 => ?_))
    · dsimp only [jpush]
      (try simp (disch := omega) only [jset_k, jset_j, jset_same, true_and, and_true, cBegin_o, cEnter])
      refine e_if_ne 16 19 dX8_lendOn_13 (by decide) (by decide) rfl (fun _ => ?_) (fun h => absurd h (by decide))
      refine e_iload_n (i := 3) 20 dX8_lendOn_19 rfl rfl rfl ?_
      refine e_callSN 23 mt_yX11_isLoan ms_yX11_isLoan (by decide +kernel) (by decide) dX8_lendOn_20 rfl rfl (Nat.le_of_ble_eq_true rfl) (jroom (by decide)) rfl (c_isLoan (by (try simp (disch := omega) only [jset_k, jset_j, jset_same, true_and, and_true, cBegin_o, cEnter]); omega) (fun w20 => ?_) (fun w20 => ?_))
      · dsimp only [jpush]
        (try simp (disch := omega) only [jset_k, jset_j, jset_same, true_and, and_true, cBegin_o, cEnter])
        refine e_if_ne 26 29 dX8_lendOn_23 (by decide) (by decide) rfl (fun _ => ?_) (fun h => absurd h (by decide))
        refine e_aload_n (i := 0) 30 dX8_lendOn_29 rfl rfl rfl ?_
        refine e_geti (j := 10) 33 fl_8_111 dX8_lendOn_30 at_1 (by decide) rfl rfl (fun r30 => ?_)
        refine e_bipush 35 dX8_lendOn_33 (by decide) rfl ?_
        refine e_icmp_ge 38 48 dX8_lendOn_35 (by omega) (by decide) (by decide) rfl (fun b35 => ?_) (fun b35 => ?_)
        · skip
          refine e_bipush 50 dX8_lendOn_48 (by decide) rfl ?_
          refine e_iret dX8_lendOn_50 ?_
          first | exact h2 (by omega) | exact h3 (by omega) | exact h4 (by omega) | exact h5 (by omega)
        · skip
          refine e_aload_n (i := 0) 39 dX8_lendOn_38 rfl rfl rfl ?_
          refine e_geti (j := 12) 42 fl_8_117 dX8_lendOn_39 at_1 (by decide) rfl rfl (fun r39 => ?_)
          refine e_sipush 45 dX8_lendOn_42 (by decide) rfl ?_
          refine e_icmp_lt 48 51 dX8_lendOn_45 (by omega) (by decide) (by decide) rfl (fun b45 => ?_) (fun b45 => ?_)
          · skip
            refine e_aload_n (i := 0) 52 dX8_lendOn_51 rfl rfl rfl ?_
            refine e_getr (j := 0) 55 fl_8_12 dX8_lendOn_52 at_1 rfl rfl tp_1_0 rfl ?_
            refine e_iload_n (i := 3) 56 dX8_lendOn_55 rfl rfl rfl ?_
            refine e_callV 59 mt_yX1_lends mv_yX1_lends wd_784 (by decide) dX8_lendOn_56 at_2 jc_1 rfl rfl rfl (Nat.le_of_ble_eq_true rfl) (jroom (by decide)) rfl (c_lends (by (try simp (disch := omega) only [jset_k, jset_j, jset_same, true_and, and_true, cBegin_o, cEnter]); omega) lw_2 hO (fun w56 => ?_) (fun w56 => ?_))
            · dsimp only [jpush]
              (try simp (disch := omega) only [jset_k, jset_j, jset_same, true_and, and_true, cBegin_o, cEnter])
              refine e_if_ne 62 65 dX8_lendOn_59 (by decide) (by decide) rfl (fun _ => ?_) (fun h => absurd h (by decide))
              refine e_aload_n (i := 0) 66 dX8_lendOn_65 rfl rfl rfl ?_
              refine e_getr (j := 9) 69 fl_8_42 dX8_lendOn_66 at_1 rfl rfl tp_1_9 rfl ?_
              refine e_aload_n (i := 0) 70 dX8_lendOn_69 rfl rfl rfl ?_
              refine e_geti (j := 10) 73 fl_8_111 dX8_lendOn_70 at_1 (by decide) rfl rfl (fun r70 => ?_)
              refine e_aald 74 dX8_lendOn_73 ar_18 (by decide) (by omega) (by omega) (tp_pledge (by omega) (by omega)) rfl ?_
              refine e_iload_n (i := 1) 75 dX8_lendOn_74 rfl rfl rfl ?_
              refine e_iload_n (i := 2) 76 dX8_lendOn_75 rfl rfl rfl ?_
              refine e_iload_n (i := 3) 77 dX8_lendOn_76 rfl rfl rfl ?_
              refine e_aload_n (i := 0) 78 dX8_lendOn_77 rfl rfl rfl ?_
              refine e_geti (j := 4) 81 fl_8_81 dX8_lendOn_78 at_1 (by decide) rfl rfl (fun r78 => ?_)
              refine e_callV 84 mt_yX5_begin mv_yX5_begin wd_785 (by decide) dX8_lendOn_81 (at_pledge (by omega) (by omega)) jc_5 rfl rfl rfl (Nat.le_of_ble_eq_true rfl) (jroom (by decide)) rfl (c_begin (by (try simp (disch := omega) only [jset_k, jset_j, jset_same, true_and, and_true, cBegin_o, cEnter]); omega) (by (try simp (disch := omega) only [jset_k, jset_j, jset_same, true_and, and_true, cBegin_o, cEnter]); omega) (by (try simp (disch := omega) only [jset_k, jset_j, jset_same, true_and, and_true, cBegin_o, cEnter]); omega) (by (try simp (disch := omega) only [jset_k, jset_j, jset_same, true_and, and_true, cBegin_o, cEnter]); omega) (by (try simp (disch := omega) only [jset_k, jset_j, jset_same, true_and, and_true, cBegin_o, cEnter]); omega) ?_)
              dsimp only [jpush]
              (try simp (disch := omega) only [jset_k, jset_j, jset_same, true_and, and_true, cBegin_o, cEnter])
              refine e_aload_n (i := 0) 85 dX8_lendOn_84 rfl rfl rfl ?_
              refine e_dup 86 dX8_lendOn_85 rfl rfl ?_
              refine e_geti (j := 10) 89 fl_8_111 dX8_lendOn_86 at_1 (by decide) rfl rfl (fun r86 => ?_)
              simp (disch := omega) only [jset_k, jset_j, jset_same, true_and, and_true, cBegin_o, cEnter] at r86 ⊢
              refine e_iconst 90 dX8_lendOn_89 rfl ?_
              refine e_iadd 91 dX8_lendOn_90 rfl ?_
              refine e_puti (j := 10) 94 fl_8_111 dX8_lendOn_91 at_1 rfl rfl rfl (by omega) rfl ?_
              refine e_aload_n (i := 0) 95 dX8_lendOn_94 rfl rfl rfl ?_
              refine e_getr (j := 7) 98 fl_8_36 dX8_lendOn_95 at_1 rfl rfl tp_1_7 rfl ?_
              refine e_iload_n (i := 2) 99 dX8_lendOn_98 rfl rfl rfl ?_
              refine e_aald 100 dX8_lendOn_99 ar_17 (by decide) (by omega) (by omega) (tp_person (by omega) (by omega)) rfl ?_
              refine e_dup 101 dX8_lendOn_100 rfl rfl ?_
              refine e_geti (j := 3) 104 fl_8_164 dX8_lendOn_101 (at_person (by omega) (by omega)) (by decide) rfl rfl (fun r101 => ?_)
              simp (disch := omega) only [jset_k, jset_j, jset_same, true_and, and_true, cBegin_o, cEnter] at r101 ⊢
              refine e_iconst 105 dX8_lendOn_104 rfl ?_
              refine e_iload_n (i := 3) 106 dX8_lendOn_105 rfl rfl rfl ?_
              refine e_imul 107 dX8_lendOn_106 rfl ?_
              refine e_aload_n (i := 0) 108 dX8_lendOn_107 rfl rfl rfl ?_
              refine e_getr (j := 0) 111 fl_8_12 dX8_lendOn_108 at_1 rfl rfl tp_1_0 rfl ?_
              refine e_getr (j := 4) 114 fl_8_167 dX8_lendOn_111 at_2 rfl rfl tp_2_4 rfl ?_
              refine e_iconst 115 dX8_lendOn_114 rfl ?_
              refine e_iald 116 dX8_lendOn_115 ar_6 (by decide) (by decide) rfl (fun r115 => ?_)
              simp (disch := omega) only [jset_k, jset_j, jset_same, true_and, and_true, cBegin_o, cEnter] at r115 ⊢
              refine e_isub 117 dX8_lendOn_116 rfl ?_
              refine e_iadd 118 dX8_lendOn_117 rfl ?_
              refine e_putw (j := 3) 121 fl_8_164 dX8_lendOn_118 (at_person (by omega) (by omega)) rfl rfl rfl rfl ?_
              refine e_aload_n (i := 0) 122 dX8_lendOn_121 rfl rfl rfl ?_
              refine e_iconst 123 dX8_lendOn_122 rfl ?_
              refine e_iconst 124 dX8_lendOn_123 rfl ?_
              refine e_iload_n (i := 3) 125 dX8_lendOn_124 rfl rfl rfl ?_
              refine e_imul 126 dX8_lendOn_125 rfl ?_
              refine e_callV 129 mt_yX8_enter mv_yX8_enter wd_789 (by decide) dX8_lendOn_126 at_1 jc_8 rfl rfl rfl (Nat.le_of_ble_eq_true rfl) (jroom (by decide)) rfl (c_enter (by decide) (by (try simp (disch := omega) only [jset_k, jset_j, jset_same, true_and, and_true, cBegin_o, cEnter]); omega) ?_)
              dsimp only [jpush]
              (try simp (disch := omega) only [jset_k, jset_j, jset_same, true_and, and_true, cBegin_o, cEnter])
              refine e_aload_n (i := 0) 130 dX8_lendOn_129 rfl rfl rfl ?_
              refine e_iconst 131 dX8_lendOn_130 rfl ?_
              refine e_iconst 132 dX8_lendOn_131 rfl ?_
              refine e_callV 135 mt_yX8_enter mv_yX8_enter wd_789 (by decide) dX8_lendOn_132 at_1 jc_8 rfl rfl rfl (Nat.le_of_ble_eq_true rfl) (jroom (by decide)) rfl (c_enter (by decide) (by (try simp (disch := omega) only [jset_k, jset_j, jset_same, true_and, and_true, cBegin_o, cEnter]); omega) ?_)
              dsimp only [jpush]
              (try simp (disch := omega) only [jset_k, jset_j, jset_same, true_and, and_true, cBegin_o, cEnter])
              refine e_aload_n (i := 0) 136 dX8_lendOn_135 rfl rfl rfl ?_
              refine e_aload_n (i := 0) 137 dX8_lendOn_136 rfl rfl rfl ?_
              refine e_geti (j := 10) 140 fl_8_111 dX8_lendOn_137 at_1 (by decide) rfl rfl (fun r137 => ?_)
              simp (disch := omega) only [jset_k, jset_j, jset_same, true_and, and_true, cBegin_o, cEnter] at r137 ⊢
              refine e_iconst 141 dX8_lendOn_140 rfl ?_
              refine e_isub 142 dX8_lendOn_141 rfl ?_
              refine e_iload_n (i := 2) 143 dX8_lendOn_142 rfl rfl rfl ?_
              refine e_callV 146 mt_yX8_issue mv_yX8_issue wd_793 (by decide) dX8_lendOn_143 at_1 jc_8 rfl rfl rfl (Nat.le_of_ble_eq_true rfl) (jroom (by decide)) rfl (c_issue (by (try simp (disch := omega) only [jset_k, jset_j, jset_same, true_and, and_true, cBegin_o, cEnter]); omega) (by (try simp (disch := omega) only [jset_k, jset_j, jset_same, true_and, and_true, cBegin_o, cEnter]); omega) (by (try simp (disch := omega) only [jset_k, jset_j, jset_same, true_and, and_true, cBegin_o, cEnter]); omega) ?_)
              dsimp only [jpush]
              (try simp (disch := omega) only [jset_k, jset_j, jset_same, true_and, and_true, cBegin_o, cEnter])
              refine e_iret dX8_lendOn_146 ?_
              rw [show M 1 10 + 1 - 1 = M 1 10 by omega]
              exact h0 (by omega)
            · dsimp only [jpush]
              (try simp (disch := omega) only [jset_k, jset_j, jset_same, true_and, and_true, cBegin_o, cEnter])
              refine e_if_ne 62 65 dX8_lendOn_59 (by decide) (by decide) rfl (fun h => absurd h (by decide)) (fun _ => ?_)
              refine e_bipush 64 dX8_lendOn_62 (by decide) rfl ?_
              refine e_iret dX8_lendOn_64 ?_
              first | exact h2 (by omega) | exact h3 (by omega) | exact h4 (by omega) | exact h5 (by omega)
          · skip
            refine e_bipush 50 dX8_lendOn_48 (by decide) rfl ?_
            refine e_iret dX8_lendOn_50 ?_
            first | exact h2 (by omega) | exact h3 (by omega) | exact h4 (by omega) | exact h5 (by omega)
      · dsimp only [jpush]
        (try simp (disch := omega) only [jset_k, jset_j, jset_same, true_and, and_true, cBegin_o, cEnter])
        refine e_if_ne 26 29 dX8_lendOn_23 (by decide) (by decide) rfl (fun h => absurd h (by decide)) (fun _ => ?_)
        refine e_bipush 28 dX8_lendOn_26 (by decide) rfl ?_
        refine e_iret dX8_lendOn_28 ?_
        first | exact h2 (by omega) | exact h3 (by omega) | exact h4 (by omega) | exact h5 (by omega)
    · dsimp only [jpush]
      (try simp (disch := omega) only [jset_k, jset_j, jset_same, true_and, and_true, cBegin_o, cEnter])
      refine e_if_ne 16 19 dX8_lendOn_13 (by decide) (by decide) rfl (fun h => absurd h (by decide)) (fun _ => ?_)
      refine e_bipush 18 dX8_lendOn_16 (by decide) rfl ?_
      refine e_iret dX8_lendOn_18 ?_
      first | exact h2 (by omega) | exact h3 (by omega) | exact h4 (by omega) | exact h5 (by omega)
  · dsimp only [jpush]
    (try simp (disch := omega) only [jset_k, jset_j, jset_same, true_and, and_true, cBegin_o, cEnter])
    refine e_if_eq 8 16 dX8_lendOn_5 (by decide) (by decide) rfl (fun _ => ?_) (fun h => absurd h (by decide))
    refine e_bipush 18 dX8_lendOn_16 (by decide) rfl ?_
    refine e_iret dX8_lendOn_18 ?_
    first | exact h2 (by omega) | exact h3 (by omega) | exact h4 (by omega) | exact h5 (by omega)

theorem m_pledges {k p l : Int} {M : jM} {Q : Int → jM → Prop} (hk : -9223372036854775808 ≤ k ∧ k ≤ 9223372036854775807) (hp : -9223372036854775808 ≤ p ∧ p ≤ 9223372036854775807) (hl : -9223372036854775808 ≤ l ∧ l ≤ 9223372036854775807) (hr : (0 ≤ M 929 582 ∧ M 929 582 ≤ 12) ∧ (0 ≤ M 929 643 ∧ M 929 643 ≤ 16) ∧ (0 ≤ M 929 709 ∧ M 929 709 ≤ 60) ∧ (0 ≤ M 929 1310 ∧ M 929 1310 ≤ 150) ∧ (0 ≤ M 929 708 ∧ M 929 708 ≤ 300)) (hO : RLaw (M 929) 0) (h2 : (k < 0 ∨ M 929 582 ≤ k ∨ p < 0 ∨ M 929 643 ≤ p) → Q (-2) M) (h3 : (0 ≤ k ∧ k < M 929 582 ∧ 0 ≤ p ∧ p < M 929 643) ∧ (l < 1 ∨ 999 < l) → Q (-3) M) (h4 : (0 ≤ k ∧ k < M 929 582 ∧ 0 ≤ p ∧ p < M 929 643) ∧ (1 ≤ l ∧ l ≤ 999) ∧ (60 ≤ M 929 709 ∨ 150 ≤ M 929 1310) → Q (-4) M) (h5 : (0 ≤ k ∧ k < M 929 582 ∧ 0 ≤ p ∧ p < M 929 643) ∧ (1 ≤ l ∧ l ≤ 999) ∧ (M 929 709 < 60 ∧ M 929 1310 < 150) ∧ rTop (M 929) 0 < l → Q (-5) M) (h0 : (0 ≤ k ∧ k < M 929 582 ∧ 0 ≤ p ∧ p < M 929 643) ∧ (1 ≤ l ∧ l ≤ 999) ∧ (M 929 709 < 60 ∧ M 929 1310 < 150) ∧ l ≤ rTop (M 929) 0 → Q (tkNum (M 929 1310 + 1)) (rLend M k p l)) : jCt yX12_pledges cX12_pledges 9 (some .int) 3 [jR 928, jL k, jL p, jL l] M Q := by
  refine jCt_of mt_yX12_pledges (Nat.le_of_ble_eq_true rfl) (fun X => ?_)
  refine e_lload_n (i := 1) 1 dX12_pledges_0 rfl rfl rfl ?_
  refine e_lconst0 2 dX12_pledges_1 rfl ?_
  refine e_aload_n (i := 0) 3 dX12_pledges_2 rfl rfl rfl ?_
  refine e_getr (j := 1) 6 fl_12_13 dX12_pledges_3 at_928 rfl rfl tp_928_1 rfl ?_
  refine e_sipush 9 dX12_pledges_6 (by decide) rfl ?_
  refine e_iald 10 dX12_pledges_9 ar_929 (by decide) (by decide) rfl (fun r9 => ?_)
  refine e_iconst 11 dX12_pledges_10 rfl ?_
  refine e_isub 12 dX12_pledges_11 rfl ?_
  refine e_i2l 13 dX12_pledges_12 (by omega) rfl ?_
  refine e_callS 16 mt_yX12_within ms_yX12_within wd_1390 (by decide) dX12_pledges_13 rfl rfl (Nat.le_of_ble_eq_true rfl) (jroom (by decide)) rfl (m_within (by (try simp (disch := omega) only [jset_k, jset_j, jset_same, true_and, and_true, rKill_o]); omega) (by (try simp (disch := omega) only [jset_k, jset_j, jset_same, true_and, and_true, rKill_o]); omega) (by (try simp (disch := omega) only [jset_k, jset_j, jset_same, true_and, and_true, rKill_o]); omega) (fun w13 => ?_) (fun w13 => ?_))
  · dsimp only [jpush]
    (try simp (disch := omega) only [jset_k, jset_j, jset_same, true_and, and_true, rKill_o])
    refine e_if_eq 19 38 dX12_pledges_16 (by decide) (by decide) rfl (fun h => absurd h (by decide)) (fun _ => ?_)
    refine e_lload_n (i := 3) 20 dX12_pledges_19 rfl rfl rfl ?_
    refine e_lconst0 21 dX12_pledges_20 rfl ?_
    refine e_aload_n (i := 0) 22 dX12_pledges_21 rfl rfl rfl ?_
    refine e_getr (j := 1) 25 fl_12_13 dX12_pledges_22 at_928 rfl rfl tp_928_1 rfl ?_
    refine e_sipush 28 dX12_pledges_25 (by decide) rfl ?_
    refine e_iald 29 dX12_pledges_28 ar_929 (by decide) (by decide) rfl (fun r28 => ?_)
    refine e_iconst 30 dX12_pledges_29 rfl ?_
    refine e_isub 31 dX12_pledges_30 rfl ?_
    refine e_i2l 32 dX12_pledges_31 (by omega) rfl ?_
    refine e_callS 35 mt_yX12_within ms_yX12_within wd_1390 (by decide) dX12_pledges_32 rfl rfl (Nat.le_of_ble_eq_true rfl) (jroom (by decide)) rfl (m_within (by (try simp (disch := omega) only [jset_k, jset_j, jset_same, true_and, and_true, rKill_o]); omega) (by (try simp (disch := omega) only [jset_k, jset_j, jset_same, true_and, and_true, rKill_o]); omega) (by (try simp (disch := omega) only [jset_k, jset_j, jset_same, true_and, and_true, rKill_o]); omega) (fun w32 => ?_) (fun w32 => ?_))
    · dsimp only [jpush]
      (try simp (disch := omega) only [jset_k, jset_j, jset_same, true_and, and_true, rKill_o])
      refine e_if_ne 38 41 dX12_pledges_35 (by decide) (by decide) rfl (fun _ => ?_) (fun h => absurd h (by decide))
      refine e_lload 43 dX12_pledges_41 rfl rfl ?_
      refine e_lconst1 44 dX12_pledges_43 rfl ?_
      refine e_ldc2 (z := (999)) 47 (ix := 198) wd_1482 (by decide) dX12_pledges_44 rfl ?_
      refine e_callS 50 mt_yX12_within ms_yX12_within wd_1390 (by decide) dX12_pledges_47 rfl rfl (Nat.le_of_ble_eq_true rfl) (jroom (by decide)) rfl (m_within (by (try simp (disch := omega) only [jset_k, jset_j, jset_same, true_and, and_true, rKill_o]); omega) (by (try simp (disch := omega) only [jset_k, jset_j, jset_same, true_and, and_true, rKill_o]); omega) (by (try simp (disch := omega) only [jset_k, jset_j, jset_same, true_and, and_true, rKill_o]); omega) (fun w47 => ?_) (fun w47 => ?_))
      · dsimp only [jpush]
        (try simp (disch := omega) only [jset_k, jset_j, jset_same, true_and, and_true, rKill_o])
        refine e_if_ne 53 56 dX12_pledges_50 (by decide) (by decide) rfl (fun _ => ?_) (fun h => absurd h (by decide))
        refine e_aload_n (i := 0) 57 dX12_pledges_56 rfl rfl rfl ?_
        refine e_getr (j := 1) 60 fl_12_13 dX12_pledges_57 at_928 rfl rfl tp_928_1 rfl ?_
        refine e_sipush 63 dX12_pledges_60 (by decide) rfl ?_
        refine e_iald 64 dX12_pledges_63 ar_929 (by decide) (by decide) rfl (fun r63 => ?_)
        refine e_bipush 66 dX12_pledges_64 (by decide) rfl ?_
        refine e_icmp_eq 69 83 dX12_pledges_66 (by omega) (by decide) (by decide) rfl (fun b66 => ?_) (fun b66 => ?_)
        · skip
          refine e_bipush 85 dX12_pledges_83 (by decide) rfl ?_
          refine e_iret dX12_pledges_85 ?_
          first | exact h2 (by omega) | exact h3 (by omega) | exact h4 (by omega) | exact h5 (by omega)
        · skip
          refine e_aload_n (i := 0) 70 dX12_pledges_69 rfl rfl rfl ?_
          refine e_getr (j := 1) 73 fl_12_13 dX12_pledges_70 at_928 rfl rfl tp_928_1 rfl ?_
          refine e_sipush 76 dX12_pledges_73 (by decide) rfl ?_
          refine e_iald 77 dX12_pledges_76 ar_929 (by decide) (by decide) rfl (fun r76 => ?_)
          refine e_sipush 80 dX12_pledges_77 (by decide) rfl ?_
          refine e_icmp_ne 83 86 dX12_pledges_80 (by omega) (by decide) (by decide) rfl (fun b80 => ?_) (fun b80 => ?_)
          · skip
            refine e_lload 88 dX12_pledges_86 rfl rfl ?_
            refine e_l2i 89 dX12_pledges_88 rfl ?_
            have hT := hO.2.2.2.2.1
            have hT2 : 0 ≤ M 929 26 ∧ M 929 26 ≤ 20 := hT
            refine e_istore (lsn := [(7, _), (0, _), (1, _), (3, _), (5, _)]) 91 dX12_pledges_89 (by decide) rfl rfl ?_
            refine e_aload_n (i := 0) 92 dX12_pledges_91 rfl rfl rfl ?_
            refine e_iconst 93 dX12_pledges_92 rfl ?_
            refine e_iload 95 dX12_pledges_93 rfl rfl ?_
            refine e_iconst 96 dX12_pledges_95 rfl ?_
            refine e_callV 99 mt_yX12_interestBy mv_yX12_interestBy wd_1487 (by decide) dX12_pledges_96 at_928 jc_12 rfl rfl rfl (Nat.le_of_ble_eq_true rfl) (jroom (by decide)) rfl (m_interestBy (by decide) (by (try simp (disch := omega) only [jset_k, jset_j, jset_same, true_and, and_true, rKill_o]); omega) (by (try simp (disch := omega) only [jset_k, jset_j, jset_same, true_and, and_true, rKill_o]); omega) hO (fun w96 => ?_) (fun w96 => ?_))
            · dsimp only [jpush]
              (try simp (disch := omega) only [jset_k, jset_j, jset_same, true_and, and_true, rKill_o])
              (try have hcr := rChg_rng (loan := l) (hv := 1) hO (by omega) (by omega))
              refine e_iconst 100 dX12_pledges_99 rfl ?_
              refine e_icmp_ne 103 106 dX12_pledges_100 (by omega) (by decide) (by decide) rfl (fun b100 => ?_) (fun b100 => ?_)
              · skip
                refine e_aload_n (i := 0) 107 dX12_pledges_106 rfl rfl rfl ?_
                refine e_getr (j := 1) 110 fl_12_13 dX12_pledges_107 at_928 rfl rfl tp_928_1 rfl ?_
                refine e_sipush 113 dX12_pledges_110 (by decide) rfl ?_
                refine e_iald 114 dX12_pledges_113 ar_929 (by decide) (by decide) rfl (fun r113 => ?_)
                refine e_istore (lsn := [(8, _), (7, _), (0, _), (1, _), (3, _), (5, _)]) 116 dX12_pledges_114 (by decide) rfl rfl ?_
                refine e_aload_n (i := 0) 117 dX12_pledges_116 rfl rfl rfl ?_
                refine e_getr (j := 1) 120 fl_12_13 dX12_pledges_117 at_928 rfl rfl tp_928_1 rfl ?_
                refine e_sipush 123 dX12_pledges_120 (by decide) rfl ?_
                refine e_iload 125 dX12_pledges_123 rfl rfl ?_
                refine e_iadd 126 dX12_pledges_125 rfl ?_
                refine e_lload_n (i := 1) 127 dX12_pledges_126 rfl rfl rfl ?_
                refine e_l2i 128 dX12_pledges_127 rfl ?_
                refine e_iast 129 dX12_pledges_128 ar_929 (by omega) (by omega) (by omega) rfl ?_
                refine e_aload_n (i := 0) 130 dX12_pledges_129 rfl rfl rfl ?_
                refine e_getr (j := 1) 133 fl_12_13 dX12_pledges_130 at_928 rfl rfl tp_928_1 rfl ?_
                refine e_sipush 136 dX12_pledges_133 (by decide) rfl ?_
                refine e_iload 138 dX12_pledges_136 rfl rfl ?_
                refine e_iadd 139 dX12_pledges_138 rfl ?_
                refine e_lload_n (i := 3) 140 dX12_pledges_139 rfl rfl rfl ?_
                refine e_l2i 141 dX12_pledges_140 rfl ?_
                refine e_iast 142 dX12_pledges_141 ar_929 (by omega) (by omega) (by omega) rfl ?_
                refine e_aload_n (i := 0) 143 dX12_pledges_142 rfl rfl rfl ?_
                refine e_getr (j := 1) 146 fl_12_13 dX12_pledges_143 at_928 rfl rfl tp_928_1 rfl ?_
                refine e_sipush 149 dX12_pledges_146 (by decide) rfl ?_
                refine e_iload 151 dX12_pledges_149 rfl rfl ?_
                refine e_iadd 152 dX12_pledges_151 rfl ?_
                refine e_iload 154 dX12_pledges_152 rfl rfl ?_
                refine e_iast 155 dX12_pledges_154 ar_929 (by omega) (by omega) (by omega) rfl ?_
                refine e_aload_n (i := 0) 156 dX12_pledges_155 rfl rfl rfl ?_
                refine e_getr (j := 1) 159 fl_12_13 dX12_pledges_156 at_928 rfl rfl tp_928_1 rfl ?_
                refine e_sipush 162 dX12_pledges_159 (by decide) rfl ?_
                refine e_iload 164 dX12_pledges_162 rfl rfl ?_
                refine e_iadd 165 dX12_pledges_164 rfl ?_
                refine e_aload_n (i := 0) 166 dX12_pledges_165 rfl rfl rfl ?_
                refine e_getr (j := 1) 169 fl_12_13 dX12_pledges_166 at_928 rfl rfl tp_928_1 rfl ?_
                refine e_sipush 172 dX12_pledges_169 (by decide) rfl ?_
                refine e_iald 173 dX12_pledges_172 ar_929 (by decide) (by decide) rfl (fun r172 => ?_)
                simp (disch := omega) only [jset_k, jset_j, jset_same, true_and, and_true, rKill_o] at r172 ⊢
                refine e_iast 174 dX12_pledges_173 ar_929 (by omega) (by omega) (by omega) rfl ?_
                refine e_aload_n (i := 0) 175 dX12_pledges_174 rfl rfl rfl ?_
                refine e_getr (j := 1) 178 fl_12_13 dX12_pledges_175 at_928 rfl rfl tp_928_1 rfl ?_
                refine e_sipush 181 dX12_pledges_178 (by decide) rfl ?_
                refine e_iload 183 dX12_pledges_181 rfl rfl ?_
                refine e_iadd 184 dX12_pledges_183 rfl ?_
                refine e_aload_n (i := 0) 185 dX12_pledges_184 rfl rfl rfl ?_
                refine e_getr (j := 1) 188 fl_12_13 dX12_pledges_185 at_928 rfl rfl tp_928_1 rfl ?_
                refine e_sipush 191 dX12_pledges_188 (by decide) rfl ?_
                refine e_iald 192 dX12_pledges_191 ar_929 (by decide) (by decide) rfl (fun r191 => ?_)
                simp (disch := omega) only [jset_k, jset_j, jset_same, true_and, and_true, rKill_o] at r191 ⊢
                refine e_iast 193 dX12_pledges_192 ar_929 (by omega) (by omega) (by omega) rfl ?_
                refine e_aload_n (i := 0) 194 dX12_pledges_193 rfl rfl rfl ?_
                refine e_getr (j := 1) 197 fl_12_13 dX12_pledges_194 at_928 rfl rfl tp_928_1 rfl ?_
                refine e_sipush 200 dX12_pledges_197 (by decide) rfl ?_
                refine e_iload 202 dX12_pledges_200 rfl rfl ?_
                refine e_iadd 203 dX12_pledges_202 rfl ?_
                refine e_iconst 204 dX12_pledges_203 rfl ?_
                refine e_iast 205 dX12_pledges_204 ar_929 (by omega) (by omega) (by decide) rfl ?_
                refine e_aload_n (i := 0) 206 dX12_pledges_205 rfl rfl rfl ?_
                refine e_getr (j := 1) 209 fl_12_13 dX12_pledges_206 at_928 rfl rfl tp_928_1 rfl ?_
                refine e_sipush 212 dX12_pledges_209 (by decide) rfl ?_
                refine e_iload 214 dX12_pledges_212 rfl rfl ?_
                refine e_iadd 215 dX12_pledges_214 rfl ?_
                refine e_iconst 216 dX12_pledges_215 rfl ?_
                refine e_iast 217 dX12_pledges_216 ar_929 (by omega) (by omega) (by decide) rfl ?_
                refine e_aload_n (i := 0) 218 dX12_pledges_217 rfl rfl rfl ?_
                refine e_getr (j := 1) 221 fl_12_13 dX12_pledges_218 at_928 rfl rfl tp_928_1 rfl ?_
                refine e_sipush 224 dX12_pledges_221 (by decide) rfl ?_
                refine e_iload 226 dX12_pledges_224 rfl rfl ?_
                refine e_iadd 227 dX12_pledges_226 rfl ?_
                refine e_iconst 228 dX12_pledges_227 rfl ?_
                refine e_iast 229 dX12_pledges_228 ar_929 (by omega) (by omega) (by decide) rfl ?_
                refine e_aload_n (i := 0) 230 dX12_pledges_229 rfl rfl rfl ?_
                refine e_getr (j := 1) 233 fl_12_13 dX12_pledges_230 at_928 rfl rfl tp_928_1 rfl ?_
                refine e_sipush 236 dX12_pledges_233 (by decide) rfl ?_
                refine e_iload 238 dX12_pledges_236 rfl rfl ?_
                refine e_iadd 239 dX12_pledges_238 rfl ?_
                refine e_iconst 240 dX12_pledges_239 rfl ?_
                refine e_iast 241 dX12_pledges_240 ar_929 (by omega) (by omega) (by decide) rfl ?_
                refine e_aload_n (i := 0) 242 dX12_pledges_241 rfl rfl rfl ?_
                refine e_getr (j := 1) 245 fl_12_13 dX12_pledges_242 at_928 rfl rfl tp_928_1 rfl ?_
                refine e_sipush 248 dX12_pledges_245 (by decide) rfl ?_
                refine e_iload 250 dX12_pledges_248 rfl rfl ?_
                refine e_iadd 251 dX12_pledges_250 rfl ?_
                refine e_iconst 252 dX12_pledges_251 rfl ?_
                refine e_iast 253 dX12_pledges_252 ar_929 (by omega) (by omega) (by decide) rfl ?_
                refine e_aload_n (i := 0) 254 dX12_pledges_253 rfl rfl rfl ?_
                refine e_getr (j := 1) 257 fl_12_13 dX12_pledges_254 at_928 rfl rfl tp_928_1 rfl ?_
                refine e_sipush 260 dX12_pledges_257 (by decide) rfl ?_
                refine e_iload 262 dX12_pledges_260 rfl rfl ?_
                refine e_iadd 263 dX12_pledges_262 rfl ?_
                refine e_iconst 264 dX12_pledges_263 rfl ?_
                refine e_iast 265 dX12_pledges_264 ar_929 (by omega) (by omega) (by decide) rfl ?_
                refine e_aload_n (i := 0) 266 dX12_pledges_265 rfl rfl rfl ?_
                refine e_getr (j := 1) 269 fl_12_13 dX12_pledges_266 at_928 rfl rfl tp_928_1 rfl ?_
                refine e_sipush 272 dX12_pledges_269 (by decide) rfl ?_
                refine e_iload 274 dX12_pledges_272 rfl rfl ?_
                refine e_iadd 275 dX12_pledges_274 rfl ?_
                refine e_iconst 276 dX12_pledges_275 rfl ?_
                refine e_iast 277 dX12_pledges_276 ar_929 (by omega) (by omega) (by decide) rfl ?_
                refine e_aload_n (i := 0) 278 dX12_pledges_277 rfl rfl rfl ?_
                refine e_getr (j := 1) 281 fl_12_13 dX12_pledges_278 at_928 rfl rfl tp_928_1 rfl ?_
                refine e_sipush 284 dX12_pledges_281 (by decide) rfl ?_
                refine e_dup2 285 dX12_pledges_284 rfl rfl rfl ?_
                refine e_iald 286 dX12_pledges_285 ar_929 (by decide) (by decide) rfl (fun r285 => ?_)
                simp (disch := omega) only [jset_k, jset_j, jset_same, true_and, and_true, rKill_o] at r285 ⊢
                refine e_iconst 287 dX12_pledges_286 rfl ?_
                refine e_iadd 288 dX12_pledges_287 rfl ?_
                refine e_iast 289 dX12_pledges_288 ar_929 (by decide) (by decide) (by omega) rfl ?_
                refine e_aload_n (i := 0) 290 dX12_pledges_289 rfl rfl rfl ?_
                refine e_getr (j := 1) 293 fl_12_13 dX12_pledges_290 at_928 rfl rfl tp_928_1 rfl ?_
                refine e_sipush 296 dX12_pledges_293 (by decide) rfl ?_
                refine e_lload_n (i := 3) 297 dX12_pledges_296 rfl rfl rfl ?_
                refine e_l2i 298 dX12_pledges_297 rfl ?_
                refine e_iadd 299 dX12_pledges_298 rfl ?_
                refine e_dup2 300 dX12_pledges_299 rfl rfl rfl ?_
                refine e_iald 301 dX12_pledges_300 ar_929 (by omega) (by omega) rfl (fun r300 => ?_)
                simp (disch := omega) only [jset_k, jset_j, jset_same, true_and, and_true, rKill_o] at r300 ⊢
                refine e_iconst 302 dX12_pledges_301 rfl ?_
                refine e_iload 304 dX12_pledges_302 rfl rfl ?_
                refine e_imul 305 dX12_pledges_304 rfl ?_
                refine e_aload_n (i := 0) 306 dX12_pledges_305 rfl rfl rfl ?_
                refine e_getr (j := 1) 309 fl_12_13 dX12_pledges_306 at_928 rfl rfl tp_928_1 rfl ?_
                refine e_bipush 311 dX12_pledges_309 (by decide) rfl ?_
                refine e_iald 312 dX12_pledges_311 ar_929 (by decide) (by decide) rfl (fun r311 => ?_)
                simp (disch := omega) only [jset_k, jset_j, jset_same, true_and, and_true, rKill_o] at r311 ⊢
                refine e_isub 313 dX12_pledges_312 rfl ?_
                refine e_iadd 314 dX12_pledges_313 rfl ?_
                refine e_iastw 315 dX12_pledges_314 ar_929 (by omega) (by omega) rfl ?_
                refine e_aload_n (i := 0) 316 dX12_pledges_315 rfl rfl rfl ?_
                refine e_getr (j := 1) 319 fl_12_13 dX12_pledges_316 at_928 rfl rfl tp_928_1 rfl ?_
                refine e_sipush 322 dX12_pledges_319 (by decide) rfl ?_
                refine e_aload_n (i := 0) 323 dX12_pledges_322 rfl rfl rfl ?_
                refine e_getr (j := 1) 326 fl_12_13 dX12_pledges_323 at_928 rfl rfl tp_928_1 rfl ?_
                refine e_sipush 329 dX12_pledges_326 (by decide) rfl ?_
                refine e_iald 330 dX12_pledges_329 ar_929 (by decide) (by decide) rfl (fun r329 => ?_)
                simp (disch := omega) only [jset_k, jset_j, jset_same, true_and, and_true, rKill_o] at r329 ⊢
                refine e_iadd 331 dX12_pledges_330 rfl ?_
                refine e_dup2 332 dX12_pledges_331 rfl rfl rfl ?_
                refine e_iald 333 dX12_pledges_332 ar_929 (by omega) (by omega) rfl (fun r332 => ?_)
                simp (disch := omega) only [jset_k, jset_j, jset_same, true_and, and_true, rKill_o] at r332 ⊢
                refine e_iconst 334 dX12_pledges_333 rfl ?_
                refine e_iload 336 dX12_pledges_334 rfl rfl ?_
                refine e_imul 337 dX12_pledges_336 rfl ?_
                refine e_iadd 338 dX12_pledges_337 rfl ?_
                refine e_iastw 339 dX12_pledges_338 ar_929 (by omega) (by omega) rfl ?_
                refine e_aload_n (i := 0) 340 dX12_pledges_339 rfl rfl rfl ?_
                refine e_getr (j := 1) 343 fl_12_13 dX12_pledges_340 at_928 rfl rfl tp_928_1 rfl ?_
                refine e_sipush 346 dX12_pledges_343 (by decide) rfl ?_
                refine e_aload_n (i := 0) 347 dX12_pledges_346 rfl rfl rfl ?_
                refine e_getr (j := 1) 350 fl_12_13 dX12_pledges_347 at_928 rfl rfl tp_928_1 rfl ?_
                refine e_sipush 353 dX12_pledges_350 (by decide) rfl ?_
                refine e_iald 354 dX12_pledges_353 ar_929 (by decide) (by decide) rfl (fun r353 => ?_)
                simp (disch := omega) only [jset_k, jset_j, jset_same, true_and, and_true, rKill_o] at r353 ⊢
                refine e_iadd 355 dX12_pledges_354 rfl ?_
                refine e_dup2 356 dX12_pledges_355 rfl rfl rfl ?_
                refine e_iald 357 dX12_pledges_356 ar_929 (by omega) (by omega) rfl (fun r356 => ?_)
                simp (disch := omega) only [jset_k, jset_j, jset_same, true_and, and_true, rKill_o] at r356 ⊢
                refine e_iconst 358 dX12_pledges_357 rfl ?_
                refine e_iadd 359 dX12_pledges_358 rfl ?_
                refine e_iastw 360 dX12_pledges_359 ar_929 (by omega) (by omega) rfl ?_
                refine e_aload_n (i := 0) 361 dX12_pledges_360 rfl rfl rfl ?_
                refine e_iload 363 dX12_pledges_361 rfl rfl ?_
                refine e_lload_n (i := 3) 364 dX12_pledges_363 rfl rfl rfl ?_
                refine e_l2i 365 dX12_pledges_364 rfl ?_
                refine e_callV 368 mt_yX12_gives mv_yX12_gives wd_1524 (by decide) dX12_pledges_365 at_928 jc_12 rfl rfl rfl (Nat.le_of_ble_eq_true rfl) (jroom (by decide)) rfl (m_gives (by (try simp (disch := omega) only [jset_k, jset_j, jset_same, true_and, and_true, rKill_o]); omega) (by (try simp (disch := omega) only [jset_k, jset_j, jset_same, true_and, and_true, rKill_o]); omega) (by (try simp (disch := omega) only [jset_k, jset_j, jset_same, true_and, and_true, rKill_o]); omega) ?_)
                dsimp only [jpush]
                (try simp (disch := omega) only [jset_k, jset_j, jset_same, true_and, and_true, rKill_o])
                refine e_iret dX12_pledges_368 ?_
                exact h0 (by omega)
              · skip
                refine e_bipush 105 dX12_pledges_103 (by decide) rfl ?_
                refine e_iret dX12_pledges_105 ?_
                first | exact h2 (by omega) | exact h3 (by omega) | exact h4 (by omega) | exact h5 (by omega)
            · dsimp only [jpush]
              (try simp (disch := omega) only [jset_k, jset_j, jset_same, true_and, and_true, rKill_o])
              (try have hcr := rChg_rng (loan := l) (hv := 1) hO (by omega) (by omega))
              refine e_iconst 100 dX12_pledges_99 rfl ?_
              refine e_icmp_ne 103 106 dX12_pledges_100 (by decide) (by decide) (by decide) rfl (fun h => absurd h (by decide)) (fun _ => ?_)
              refine e_bipush 105 dX12_pledges_103 (by decide) rfl ?_
              refine e_iret dX12_pledges_105 ?_
              first | exact h2 (by omega) | exact h3 (by omega) | exact h4 (by omega) | exact h5 (by omega)
          · skip
            refine e_bipush 85 dX12_pledges_83 (by decide) rfl ?_
            refine e_iret dX12_pledges_85 ?_
            first | exact h2 (by omega) | exact h3 (by omega) | exact h4 (by omega) | exact h5 (by omega)
      · dsimp only [jpush]
        (try simp (disch := omega) only [jset_k, jset_j, jset_same, true_and, and_true, rKill_o])
        refine e_if_ne 53 56 dX12_pledges_50 (by decide) (by decide) rfl (fun h => absurd h (by decide)) (fun _ => ?_)
        refine e_bipush 55 dX12_pledges_53 (by decide) rfl ?_
        refine e_iret dX12_pledges_55 ?_
        first | exact h2 (by omega) | exact h3 (by omega) | exact h4 (by omega) | exact h5 (by omega)
    · dsimp only [jpush]
      (try simp (disch := omega) only [jset_k, jset_j, jset_same, true_and, and_true, rKill_o])
      refine e_if_ne 38 41 dX12_pledges_35 (by decide) (by decide) rfl (fun h => absurd h (by decide)) (fun _ => ?_)
      refine e_bipush 40 dX12_pledges_38 (by decide) rfl ?_
      refine e_iret dX12_pledges_40 ?_
      first | exact h2 (by omega) | exact h3 (by omega) | exact h4 (by omega) | exact h5 (by omega)
  · dsimp only [jpush]
    (try simp (disch := omega) only [jset_k, jset_j, jset_same, true_and, and_true, rKill_o])
    refine e_if_eq 19 38 dX12_pledges_16 (by decide) (by decide) rfl (fun _ => ?_) (fun h => absurd h (by decide))
    refine e_bipush 40 dX12_pledges_38 (by decide) rfl ?_
    refine e_iret dX12_pledges_40 ?_
    first | exact h2 (by omega) | exact h3 (by omega) | exact h4 (by omega) | exact h5 (by omega)

