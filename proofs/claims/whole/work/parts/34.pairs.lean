/-! PAIRS: sell, put -/
theorem mem_gen {P : jM → Prop} {M1 : jM} (h : ∀ x, x = M1 → P x) : P M1 := h _ rfl
theorem p_sell {M : jM} (hI : Inv M) {number : Int} (hnumber : -2147483648 ≤ number ∧ number ≤ 2147483647) {person : Int} (hperson : -2147483648 ≤ person ∧ person ≤ 2147483647) {price : Int} (hprice : -2147483648 ≤ price ∧ price ≤ 2147483647) : jCt yX11_sell cX11_sell 7 (some .int) 4 [jR 0, jI number, jI person, jI price] M (fun z M1 => jCt yX12_sell cX12_sell 5 (some .int) 2 [jR 928, jI number, jI person, jI price] M1 (fun z2 M2 => z = z2 ∧ Inv M2)) := by
  have hC := hI.cr
  have hn := hC.cnt
  have hg := hC.rng
  refine jCt_of mt_yX11_sell (Nat.le_of_ble_eq_true rfl) (fun X => ?_)
  refine e_aload_n (i := 0) 1 dX11_sell_0 rfl rfl rfl ?_
  refine e_getr (j := 0) 4 fl_11_10 dX11_sell_1 at_0 rfl rfl tp_0_0 rfl ?_
  refine e_iload_n (i := 1) 5 dX11_sell_4 rfl rfl rfl ?_
  refine e_callV 8 mt_yX8_living mv_yX8_living wd_812 (by decide) dX11_sell_5 at_1 jc_8 rfl rfl rfl (Nat.le_of_ble_eq_true rfl) (jroom (by decide)) rfl (c_living (by omega) hC (fun w5 => ?_) (fun w5 => ?_))
  · dsimp only [jpush]
    refine e_istore (lsn := [(4, _), (0, _), (1, _), (2, _), (3, _)]) 10 dX11_sell_8 (by decide) rfl rfl ?_
    refine e_iload 12 dX11_sell_10 rfl rfl ?_
    refine e_iconst 13 dX11_sell_12 rfl ?_
    refine e_icmp_eq 16 27 dX11_sell_13 (by omega) (by decide) (by decide) rfl (fun b13 => ?_) (fun b13 => ?_)
    · skip
      refine e_bipush 29 dX11_sell_27 (by decide) rfl ?_
      refine e_iret dX11_sell_29 ?_
      refine jCt_of mt_yX12_sell (Nat.le_of_ble_eq_true rfl) (fun X2 => ?_)
      refine e_aload_n (i := 0) 1 dX12_sell_0 rfl rfl rfl ?_
      refine e_iconst 2 dX12_sell_1 rfl ?_
      refine e_put0 (j := 0) 5 fl_12_1 dX12_sell_2 at_928 rfl rfl rfl (by decide) hI.1 rfl ?_
      refine e_aload_n (i := 0) 6 dX12_sell_5 rfl rfl rfl ?_
      refine e_iload_n (i := 1) 7 dX12_sell_6 rfl rfl rfl ?_
      refine e_callV 10 mt_yX12_stateOf mv_yX12_stateOf wd_1535 (by decide) dX12_sell_7 at_928 jc_12 rfl rfl rfl (Nat.le_of_ble_eq_true rfl) (jroom (by decide)) rfl (m_stateOf (by omega) hg.2.2.2.1 (fun t a b => (hC.tk a b).2.2.2.1) (fun w7 => ?_) (fun w7 => ?_) (fun w7 => ?_) (fun w7 => ?_))
      · (exfalso; (try simp only [tkBad, tkGood] at *); omega)
      · (exfalso; (try simp only [tkBad, tkGood] at *); omega)
      · (exfalso; (try simp only [tkBad, tkGood] at *); omega)
      · dsimp only [jpush]
        first
         | (exfalso; omega)
         | (skip
            refine e_if_ne 13 21 dX12_sell_10 (by decide) (by decide) rfl (fun h => absurd h (by decide)) (fun _ => ?_)
            refine e_aload_n (i := 0) 14 dX12_sell_13 rfl rfl rfl ?_
            refine e_iload_n (i := 2) 15 dX12_sell_14 rfl rfl rfl ?_
            refine e_callV 18 mt_yX12_isPerson mv_yX12_isPerson wd_1506 (by decide) dX12_sell_15 at_928 jc_12 rfl rfl rfl (Nat.le_of_ble_eq_true rfl) (jroom (by decide)) rfl (m_isPerson (by omega) (fun w15 => ?_) (fun w15 => ?_))
            · dsimp only [jpush]
              first
               | (exfalso; omega)
               | (skip
                  refine e_if_ne 21 24 dX12_sell_18 (by decide) (by decide) rfl (fun _ => ?_) (fun h => absurd h (by decide))
                  refine e_iload_n (i := 1) 25 dX12_sell_24 rfl rfl rfl ?_
                  refine e_bipush 27 dX12_sell_25 (by decide) rfl ?_
                  have hg2 := w7.1
                  unfold tkGood at hg2
                  have ed : number.tdiv 100 = number / 100 := Int.tdiv_eq_ediv_of_nonneg (by omega)
                  refine e_idiv 28 dX12_sell_27 (by omega) (by decide) (by decide) rfl ?_
                  refine e_iconst 29 dX12_sell_28 rfl ?_
                  refine e_isub 30 dX12_sell_29 rfl ?_
                  rw [ed]
                  refine e_istore (lsn := [(4, _), (0, _), (1, _), (2, _), (3, _)]) 32 dX12_sell_30 (by decide) rfl rfl ?_
                  refine e_iload_n (i := 3) 33 dX12_sell_32 rfl rfl rfl ?_
                  refine e_i2l 34 dX12_sell_33 (by omega) rfl ?_
                  refine e_lconst0 35 dX12_sell_34 rfl ?_
                  refine e_ldc2 (z := (999)) 38 (ix := 198) wd_1482 (by decide) dX12_sell_35 rfl ?_
                  refine e_callS 41 mt_yX12_within ms_yX12_within wd_1390 (by decide) dX12_sell_38 rfl rfl (Nat.le_of_ble_eq_true rfl) (jroom (by decide)) rfl (m_within (by omega) (by omega) (by omega) (fun w38 => ?_) (fun w38 => ?_))
                  · dsimp only [jpush]
                    first
                     | (exfalso; omega)
                     | (skip
                        refine e_if_eq 44 59 dX12_sell_41 (by decide) (by decide) rfl (fun h => absurd h (by decide)) (fun _ => ?_)
                        refine e_aload_n (i := 0) 45 dX12_sell_44 rfl rfl rfl ?_
                        refine e_getr (j := 1) 48 fl_12_13 dX12_sell_45 at_928 rfl rfl tp_928_1 rfl ?_
                        refine e_sipush 51 dX12_sell_48 (by decide) rfl ?_
                        refine e_iload 53 dX12_sell_51 rfl rfl ?_
                        refine e_iadd 54 dX12_sell_53 rfl ?_
                        refine e_iald 55 dX12_sell_54 ar_929 (by omega) (by omega) rfl (fun r54 => ?_)
                        refine e_iload_n (i := 2) 56 dX12_sell_55 rfl rfl rfl ?_
                        refine e_icmp_ne 59 62 dX12_sell_56 (by omega) (by omega) (by decide) rfl (fun b56 => ?_) (fun b56 => ?_)
                        · first
                           | (exfalso; omega)
                           | (skip
                              refine e_aload_n (i := 0) 63 dX12_sell_62 rfl rfl rfl ?_
                              refine e_getr (j := 1) 66 fl_12_13 dX12_sell_63 at_928 rfl rfl tp_928_1 rfl ?_
                              refine e_sipush 69 dX12_sell_66 (by decide) rfl ?_
                              refine e_iload_n (i := 2) 70 dX12_sell_69 rfl rfl rfl ?_
                              refine e_iadd 71 dX12_sell_70 rfl ?_
                              refine e_iald 72 dX12_sell_71 ar_929 (by omega) (by omega) rfl (fun r71 => ?_)
                              refine e_iconst 73 dX12_sell_72 rfl ?_
                              refine e_iload_n (i := 3) 74 dX12_sell_73 rfl rfl rfl ?_
                              refine e_imul 75 dX12_sell_74 rfl ?_
                              refine e_icmp_ge 78 81 dX12_sell_75 (by omega) (by omega) (by decide) rfl (fun b75 => ?_) (fun b75 => ?_)
                              · first
                                 | (exfalso; omega)
                                 | (skip
                                    refine e_aload_n (i := 0) 82 dX12_sell_81 rfl rfl rfl ?_
                                    refine e_getr (j := 1) 85 fl_12_13 dX12_sell_82 at_928 rfl rfl tp_928_1 rfl ?_
                                    refine e_sipush 88 dX12_sell_85 (by decide) rfl ?_
                                    refine e_iload_n (i := 2) 89 dX12_sell_88 rfl rfl rfl ?_
                                    refine e_iadd 90 dX12_sell_89 rfl ?_
                                    refine e_dup2 91 dX12_sell_90 rfl rfl rfl ?_
                                    refine e_iald 92 dX12_sell_91 ar_929 (by omega) (by omega) rfl (fun r91 => ?_)
                                    refine e_iconst 93 dX12_sell_92 rfl ?_
                                    refine e_iload_n (i := 3) 94 dX12_sell_93 rfl rfl rfl ?_
                                    refine e_imul 95 dX12_sell_94 rfl ?_
                                    refine e_isub 96 dX12_sell_95 rfl ?_
                                    refine e_iastw 97 dX12_sell_96 ar_929 (by omega) (by omega) rfl ?_
                                    refine e_aload_n (i := 0) 98 dX12_sell_97 rfl rfl rfl ?_
                                    refine e_getr (j := 1) 101 fl_12_13 dX12_sell_98 at_928 rfl rfl tp_928_1 rfl ?_
                                    refine e_sipush 104 dX12_sell_101 (by decide) rfl ?_
                                    refine e_aload_n (i := 0) 105 dX12_sell_104 rfl rfl rfl ?_
                                    refine e_getr (j := 1) 108 fl_12_13 dX12_sell_105 at_928 rfl rfl tp_928_1 rfl ?_
                                    refine e_sipush 111 dX12_sell_108 (by decide) rfl ?_
                                    refine e_iload 113 dX12_sell_111 rfl rfl ?_
                                    refine e_iadd 114 dX12_sell_113 rfl ?_
                                    refine e_iald 115 dX12_sell_114 ar_929 (by omega) (by omega) rfl (fun r114 => ?_)
                                    simp (disch := omega) only [jset_k, jset_j, jset_same, true_and, and_true] at r114 ⊢
                                    refine e_iadd 116 dX12_sell_115 rfl ?_
                                    refine e_dup2 117 dX12_sell_116 rfl rfl rfl ?_
                                    refine e_iald 118 dX12_sell_117 ar_929 (by omega) (by omega) rfl (fun r117 => ?_)
                                    simp (disch := omega) only [jset_k, jset_j, jset_same, true_and, and_true] at r117 ⊢
                                    refine e_iconst 119 dX12_sell_118 rfl ?_
                                    refine e_iload_n (i := 3) 120 dX12_sell_119 rfl rfl rfl ?_
                                    refine e_imul 121 dX12_sell_120 rfl ?_
                                    refine e_iadd 122 dX12_sell_121 rfl ?_
                                    refine e_iastw 123 dX12_sell_122 ar_929 (by omega) (by omega) rfl ?_
                                    refine e_aload_n (i := 0) 124 dX12_sell_123 rfl rfl rfl ?_
                                    refine e_getr (j := 1) 127 fl_12_13 dX12_sell_124 at_928 rfl rfl tp_928_1 rfl ?_
                                    refine e_sipush 130 dX12_sell_127 (by decide) rfl ?_
                                    refine e_iload 132 dX12_sell_130 rfl rfl ?_
                                    refine e_iadd 133 dX12_sell_132 rfl ?_
                                    refine e_iload_n (i := 2) 134 dX12_sell_133 rfl rfl rfl ?_
                                    refine e_iast 135 dX12_sell_134 ar_929 (by omega) (by omega) (by omega) rfl ?_
                                    refine e_iconst 136 dX12_sell_135 rfl ?_
                                    refine e_iret dX12_sell_136 ?_
                                    first
                                      | (exact ⟨by omega, hI⟩)
                                      | (exfalso; omega)
                                      | ((try subst hM1)
                                         refine ⟨by omega, ?_⟩
                                         refine hI.live ?_ ?_ ?_
                                         · repeat (first | exact Live.rf | refine Live.c ?_ (by omega) | refine Live.r ?_ (by omega) | refine Live.s ?_ (by omega))
                                         · refine ⟨?_, ?_, ?_, ?_, ?_, ?_, ?_, ?_, ?_, ?_, ?_⟩
                                           · exact hI.2.1.1.fr (fun i hi => by simp (disch := omega) only [jset_k, jset_j, jset_same, true_and, and_true])
                                           · exact hI.2.1.2.1.fr (fun i a b => by simp (disch := omega) only [jset_k, jset_j, jset_same, true_and, and_true])
                                           · exact hI.2.1.2.2.1.fr (fun i a b => by simp (disch := omega) only [jset_k, jset_j, jset_same, true_and, and_true])
                                           · exact hI.2.1.2.2.2.1.fr (by omega) (fun i a b => by simp (disch := omega) only [jset_k, jset_j, jset_same, true_and, and_true])
                                           · exact hI.2.1.2.2.2.2.1.fr (by omega) (fun i a b => by simp (disch := omega) only [jset_k, jset_j, jset_same, true_and, and_true]) (fun i a b => by simp (disch := omega) only [jset_k, jset_j, jset_same, true_and, and_true])
                                           · exact hI.2.1.2.2.2.2.2.1.fr (by omega) (fun i a b => by simp (disch := omega) only [jset_k, jset_j, jset_same, true_and, and_true]) (fun i a b => by simp (disch := omega) only [jset_k, jset_j, jset_same, true_and, and_true]) (by simp (disch := omega) only [jset_k, jset_j, jset_same, true_and, and_true]; omega)
                                           · exact hI.2.1.2.2.2.2.2.2.1.fr (by omega) (by simp (disch := omega) only [jset_k, jset_j, jset_same, true_and, and_true]) (fun i a b => by simp (disch := omega) only [jset_k, jset_j, jset_same, true_and, and_true])
                                           · intro t h0 h1
                                             simp (disch := omega) only [jset_k, jset_j, jset_same, true_and, and_true] at h1
                                             have h := hI.2.1.2.2.2.2.2.2.2.1 t h0 h1
                                             by_cases e : t = number / 100 - 1
                                             · subst e
                                               simp (disch := omega) only [jset_k, jset_j, jset_same, true_and, and_true]
                                               omega
                                             · simp (disch := omega) only [jset_k, jset_j, jset_same, true_and, and_true]
                                               exact h
                                           · exact hI.2.1.2.2.2.2.2.2.2.2.1.fr (by omega) (fun i a b => by simp (disch := omega) only [jset_k, jset_j, jset_same, true_and, and_true])
                                           · exact hI.2.1.2.2.2.2.2.2.2.2.2.1.fr (fun i a b => by simp (disch := omega) only [jset_k, jset_j, jset_same, true_and, and_true])
                                           · exact hI.2.1.2.2.2.2.2.2.2.2.2.2.fr (fun i a b => by simp (disch := omega) only [jset_k, jset_j, jset_same, true_and, and_true])
                                         · refine ⟨?_, ?_, ?_, ?_, ?_, ?_, ?_, ?_, ?_, ?_, ?_, ?_⟩
                                           · exact hI.2.2.1.1.fr (fun j => by show _ = M (1 + 0) j; unfold cv; simp (disch := omega) only [jset_k, jset_j, jset_same, true_and, and_true]) (fun i hi => by simp (disch := omega) only [jset_k, jset_j, jset_same, true_and, and_true])
                                           · exact hI.2.2.1.2.1.fr hI.2.1.2.1 (by omega) (fun k j a b => by show _ = M (1 + k) j; unfold cv; simp (disch := omega) only [jset_k, jset_j, jset_same, true_and, and_true]) (fun i a b => by simp (disch := omega) only [jset_k, jset_j, jset_same, true_and, and_true])
                                           · exact hI.2.2.1.2.2.1.fr hI.2.1.2.2.1 (by omega) (fun k j a b => by show _ = M (1 + k) j; unfold cv; simp (disch := omega) only [jset_k, jset_j, jset_same, true_and, and_true]) (fun i a b => by simp (disch := omega) only [jset_k, jset_j, jset_same, true_and, and_true])
                                           · exact hI.2.2.1.2.2.2.1.fr (by omega) (fun k j a b => by show _ = M (1 + k) j; unfold cv; simp (disch := omega) only [jset_k, jset_j, jset_same, true_and, and_true]) (fun i a b => by simp (disch := omega) only [jset_k, jset_j, jset_same, true_and, and_true])
                                           · intro q h0 h1
                                             simp (disch := omega) only [jset_k, jset_j, jset_same, true_and, and_true] at h1
                                             simp only [cv1, Int.reduceAdd]
                                             have h := (hC.pers h0 h1).1
                                             by_cases e : q = person
                                             · subst e
                                               simp (disch := omega) only [jset_k, jset_j, jset_same, true_and, and_true]
                                               exact ⟨by omega, by omega, by omega, congrArg w32 (by omega), by omega⟩
                                             · by_cases e2 : q = M 929 (1461 + (number / 100 - 1))
                                               · have e3 : M (144 + (number / 100 - 1)) 1 = q := by omega
                                                 rw [e3, ← e2]
                                                 simp (disch := omega) only [jset_k, jset_j, jset_same, true_and, and_true]
                                                 exact ⟨by omega, by omega, by omega, congrArg w32 (by omega), by omega⟩
                                               · simp (disch := omega) only [jset_k, jset_j, jset_same, true_and, and_true]
                                                 exact h
                                           · exact hI.2.2.1.2.2.2.2.2.1.fr (by omega) (fun k j a b => by show _ = M (1 + k) j; unfold cv; simp (disch := omega) only [jset_k, jset_j, jset_same, true_and, and_true]) (fun i a b => by simp (disch := omega) only [jset_k, jset_j, jset_same, true_and, and_true]) (fun i a b => by simp (disch := omega) only [jset_k, jset_j, jset_same, true_and, and_true])
                                           · intro t h0 h1
                                             simp (disch := omega) only [jset_k, jset_j, jset_same, true_and, and_true] at h1
                                             simp only [cv1, Int.reduceAdd]
                                             have h := (hC.tk h0 h1).1
                                             by_cases e : t = number / 100 - 1
                                             · subst e
                                               simp (disch := omega) only [jset_k, jset_j, jset_same, true_and, and_true]
                                               first | omega | exact ⟨by omega, rfl, by omega, by omega⟩
                                             · simp (disch := omega) only [jset_k, jset_j, jset_same, true_and, and_true]
                                               exact h
                                           · exact hI.2.2.1.2.2.2.2.2.2.2.1.fr (by omega) (fun k j a b => by show _ = M (1 + k) j; unfold cv; simp (disch := omega) only [jset_k, jset_j, jset_same, true_and, and_true]) (fun i a b => by simp (disch := omega) only [jset_k, jset_j, jset_same, true_and, and_true])
                                           · exact hI.2.2.1.2.2.2.2.2.2.2.2.1.fr (fun k j a b => by show _ = M (1 + k) j; unfold cv; simp (disch := omega) only [jset_k, jset_j, jset_same, true_and, and_true]) (fun i a b => by simp (disch := omega) only [jset_k, jset_j, jset_same, true_and, and_true])
                                           · exact hI.2.2.1.2.2.2.2.2.2.2.2.2.1.fr (fun k j a b => by show _ = M (1 + k) j; unfold cv; simp (disch := omega) only [jset_k, jset_j, jset_same, true_and, and_true]) (fun i a b => by simp (disch := omega) only [jset_k, jset_j, jset_same, true_and, and_true])
                                           · exact hI.2.2.1.2.2.2.2.2.2.2.2.2.2.1.fr (by omega) (fun k j a b => by show _ = M (1 + k) j; unfold cv; simp (disch := omega) only [jset_k, jset_j, jset_same, true_and, and_true]) (fun i a b => by simp (disch := omega) only [jset_k, jset_j, jset_same, true_and, and_true])
                                           · exact hI.2.2.1.2.2.2.2.2.2.2.2.2.2.2.fr hI.2.1.2.2.2.2.2.2.2.2.2.2 (fun k j a b => by show _ = M (1 + k) j; unfold cv; simp (disch := omega) only [jset_k, jset_j, jset_same, true_and, and_true]) (fun i a b => by simp (disch := omega) only [jset_k, jset_j, jset_same, true_and, and_true])))
                              · first
                                 | (exfalso; omega)
                                 | (skip
                                    refine e_bipush 80 dX12_sell_78 (by decide) rfl ?_
                                    refine e_iret dX12_sell_80 ?_
                                    first
                                      | (exact ⟨by omega, hI⟩)
                                      | (exfalso; omega)))
                        · first
                           | (exfalso; omega)
                           | (skip
                              refine e_bipush 61 dX12_sell_59 (by decide) rfl ?_
                              refine e_iret dX12_sell_61 ?_
                              first
                                | (exact ⟨by omega, hI⟩)
                                | (exfalso; omega)))
                  · dsimp only [jpush]
                    first
                     | (exfalso; omega)
                     | (skip
                        refine e_if_eq 44 59 dX12_sell_41 (by decide) (by decide) rfl (fun _ => ?_) (fun h => absurd h (by decide))
                        refine e_bipush 61 dX12_sell_59 (by decide) rfl ?_
                        refine e_iret dX12_sell_61 ?_
                        first
                          | (exact ⟨by omega, hI⟩)
                          | (exfalso; omega)))
            · dsimp only [jpush]
              first
               | (exfalso; omega)
               | (skip
                  refine e_if_ne 21 24 dX12_sell_18 (by decide) (by decide) rfl (fun h => absurd h (by decide)) (fun _ => ?_)
                  refine e_bipush 23 dX12_sell_21 (by decide) rfl ?_
                  refine e_iret dX12_sell_23 ?_
                  first
                    | (exact ⟨by omega, hI⟩)
                    | (exfalso; omega)))
    · skip
      refine e_aload_n (i := 0) 17 dX11_sell_16 rfl rfl rfl ?_
      refine e_getr (j := 0) 20 fl_11_10 dX11_sell_17 at_0 rfl rfl tp_0_0 rfl ?_
      refine e_iload_n (i := 2) 21 dX11_sell_20 rfl rfl rfl ?_
      refine e_callV 24 mt_yX8_hasPerson mv_yX8_hasPerson wd_761 (by decide) dX11_sell_21 at_1 jc_8 rfl rfl rfl (Nat.le_of_ble_eq_true rfl) (jroom (by decide)) rfl (c_hasPerson (by omega) (fun w21 => ?_) (fun w21 => ?_))
      · dsimp only [jpush]
        refine e_if_ne 27 30 dX11_sell_24 (by decide) (by decide) rfl (fun _ => ?_) (fun h => absurd h (by decide))
        have ht := hC.tk (t := number / 100 - 1) (by omega) (by omega)
        refine e_aload_n (i := 0) 31 dX11_sell_30 rfl rfl rfl ?_
        refine e_getr (j := 0) 34 fl_11_10 dX11_sell_31 at_0 rfl rfl tp_0_0 rfl ?_
        refine e_getr (j := 11) 37 fl_11_188 dX11_sell_34 at_1 rfl rfl tp_1_11 rfl ?_
        refine e_iload 39 dX11_sell_37 rfl rfl ?_
        refine e_aald 40 dX11_sell_39 ar_19 (by decide) (by omega) (by omega) (tp_ticket (by omega) (by omega)) rfl ?_
        refine e_astore (lsn := [(5, _), (4, _), (0, _), (1, _), (2, _), (3, _)]) 42 dX11_sell_40 (by decide) rfl rfl ?_
        refine e_iload_n (i := 3) 43 dX11_sell_42 rfl rfl rfl ?_
        refine e_iconst 44 dX11_sell_43 rfl ?_
        refine e_sipush 47 dX11_sell_44 (by decide) rfl ?_
        refine e_callS 50 mt_yX11_within ms_yX11_within wd_531 (by decide) dX11_sell_47 rfl rfl (Nat.le_of_ble_eq_true rfl) (jroom (by decide)) rfl (c_within (by omega) (by omega) (by omega) (fun w47 => ?_) (fun w47 => ?_))
        · dsimp only [jpush]
          refine e_if_eq 53 62 dX11_sell_50 (by decide) (by decide) rfl (fun h => absurd h (by decide)) (fun _ => ?_)
          refine e_aload 55 dX11_sell_53 rfl rfl ?_
          refine e_geti (j := 1) 58 fl_11_197 dX11_sell_55 (at_ticket (by omega) (by omega)) (by decide) rfl rfl (fun r55 => ?_)
          refine e_iload_n (i := 2) 59 dX11_sell_58 rfl rfl rfl ?_
          refine e_icmp_ne 62 65 dX11_sell_59 (by omega) (by omega) (by decide) rfl (fun b59 => ?_) (fun b59 => ?_)
          · skip
            have hq := hC.pers (p := person) (by omega) (by omega)
            have hq2 := hC.pers (p := M 929 (1461 + (number / 100 - 1))) (by omega) (by omega)
            refine e_aload_n (i := 0) 66 dX11_sell_65 rfl rfl rfl ?_
            refine e_getr (j := 0) 69 fl_11_10 dX11_sell_66 at_0 rfl rfl tp_0_0 rfl ?_
            refine e_getr (j := 7) 72 fl_11_149 dX11_sell_69 at_1 rfl rfl tp_1_7 rfl ?_
            refine e_iload_n (i := 2) 73 dX11_sell_72 rfl rfl rfl ?_
            refine e_aald 74 dX11_sell_73 ar_17 (by decide) (by omega) (by omega) (tp_person (by omega) (by omega)) rfl ?_
            refine e_astore (lsn := [(6, _), (5, _), (4, _), (0, _), (1, _), (2, _), (3, _)]) 76 dX11_sell_74 (by decide) rfl rfl ?_
            refine e_aload 78 dX11_sell_76 rfl rfl ?_
            refine e_geti (j := 3) 81 fl_11_164 dX11_sell_78 (at_person (by omega) (by omega)) (by decide) rfl rfl (fun r78 => ?_)
            refine e_iconst 82 dX11_sell_81 rfl ?_
            refine e_iload_n (i := 3) 83 dX11_sell_82 rfl rfl rfl ?_
            refine e_imul 84 dX11_sell_83 rfl ?_
            refine e_icmp_ge 87 90 dX11_sell_84 (by omega) (by omega) (by decide) rfl (fun b84 => ?_) (fun b84 => ?_)
            · skip
              refine e_aload 92 dX11_sell_90 rfl rfl ?_
              refine e_dup 93 dX11_sell_92 rfl rfl ?_
              refine e_geti (j := 3) 96 fl_11_164 dX11_sell_93 (at_person (by omega) (by omega)) (by decide) rfl rfl (fun r93 => ?_)
              refine e_iconst 97 dX11_sell_96 rfl ?_
              refine e_iload_n (i := 3) 98 dX11_sell_97 rfl rfl rfl ?_
              refine e_imul 99 dX11_sell_98 rfl ?_
              refine e_isub 100 dX11_sell_99 rfl ?_
              refine e_putw (j := 3) 103 fl_11_164 dX11_sell_100 (at_person (by omega) (by omega)) rfl rfl rfl rfl ?_
              refine e_aload_n (i := 0) 104 dX11_sell_103 rfl rfl rfl ?_
              refine e_getr (j := 0) 107 fl_11_10 dX11_sell_104 at_0 rfl rfl tp_0_0 rfl ?_
              refine e_getr (j := 7) 110 fl_11_149 dX11_sell_107 at_1 rfl rfl tp_1_7 rfl ?_
              refine e_aload 112 dX11_sell_110 rfl rfl ?_
              refine e_geti (j := 1) 115 fl_11_197 dX11_sell_112 (at_ticket (by omega) (by omega)) (by decide) rfl rfl (fun r112 => ?_)
              simp (disch := omega) only [jset_k, jset_j, jset_same, true_and, and_true] at r112 ⊢
              refine e_aald 116 dX11_sell_115 ar_17 (by decide) (by omega) (by omega) (tp_person (by omega) (by omega)) rfl ?_
              refine e_dup 117 dX11_sell_116 rfl rfl ?_
              refine e_geti (j := 3) 120 fl_11_164 dX11_sell_117 (at_person (by omega) (by omega)) (by decide) rfl rfl (fun r117 => ?_)
              simp (disch := omega) only [jset_k, jset_j, jset_same, true_and, and_true] at r117 ⊢
              refine e_iconst 121 dX11_sell_120 rfl ?_
              refine e_iload_n (i := 3) 122 dX11_sell_121 rfl rfl rfl ?_
              refine e_imul 123 dX11_sell_122 rfl ?_
              refine e_iadd 124 dX11_sell_123 rfl ?_
              refine e_putw (j := 3) 127 fl_11_164 dX11_sell_124 (at_person (by omega) (by omega)) rfl rfl rfl rfl ?_
              refine e_aload 129 dX11_sell_127 rfl rfl ?_
              refine e_iload_n (i := 2) 130 dX11_sell_129 rfl rfl rfl ?_
              refine e_puti (j := 1) 133 fl_11_197 dX11_sell_130 (at_ticket (by omega) (by omega)) rfl rfl rfl (by omega) rfl ?_
              refine e_iconst 134 dX11_sell_133 rfl ?_
              refine e_iret dX11_sell_134 ?_
              refine mem_gen (P := fun M1 => jCt yX12_sell cX12_sell 5 (some .int) 2 [jR 928, jI number, jI person, jI price] M1 (fun z2 M2 => _ = z2 ∧ Inv M2)) (fun M1 hM1 => ?_)
              have hA : M1 929 = M 929 := by rw [hM1]; simp (disch := omega) only [jset_row]
              have hT : M1 928 0 = 0 := by rw [hM1]; simp (disch := omega) only [jset_k]; exact hI.1
              refine jCt_of mt_yX12_sell (Nat.le_of_ble_eq_true rfl) (fun X2 => ?_)
              refine e_aload_n (i := 0) 1 dX12_sell_0 rfl rfl rfl ?_
              refine e_iconst 2 dX12_sell_1 rfl ?_
              refine e_put0 (j := 0) 5 fl_12_1 dX12_sell_2 at_928 rfl rfl rfl (by decide) (by first | exact hT | (simp (disch := omega) only [jset_k, jset_j, jset_same, true_and, and_true, hA]; exact hT)) rfl ?_
              refine e_aload_n (i := 0) 6 dX12_sell_5 rfl rfl rfl ?_
              refine e_iload_n (i := 1) 7 dX12_sell_6 rfl rfl rfl ?_
              refine e_callV 10 mt_yX12_stateOf mv_yX12_stateOf wd_1535 (by decide) dX12_sell_7 at_928 jc_12 rfl rfl rfl (Nat.le_of_ble_eq_true rfl) (jroom (by decide)) rfl (m_stateOf (by (try simp (disch := omega) only [jset_k, jset_j, jset_same, true_and, and_true, hA]); omega) (by simp (disch := omega) only [jset_k, jset_j, jset_same, true_and, and_true, hA]; exact hg.2.2.2.1) (fun t a b => by simp (disch := omega) only [jset_k, jset_j, jset_same, true_and, and_true, hA] at b ⊢; exact (hC.tk a b).2.2.2.1) (fun w7 => ?_) (fun w7 => ?_) (fun w7 => ?_) (fun w7 => ?_))
              · (try simp (disch := omega) only [jset_k, jset_j, jset_same, true_and, and_true, hA] at w7)
                (exfalso; (try simp only [tkBad, tkGood] at *); omega)
              · (try simp (disch := omega) only [jset_k, jset_j, jset_same, true_and, and_true, hA] at w7)
                (exfalso; (try simp only [tkBad, tkGood] at *); omega)
              · (try simp (disch := omega) only [jset_k, jset_j, jset_same, true_and, and_true, hA] at w7)
                (exfalso; (try simp only [tkBad, tkGood] at *); omega)
              · dsimp only [jpush]
                (try simp (disch := omega) only [jset_k, jset_j, jset_same, true_and, and_true, hA] at w7)
                (try simp (disch := omega) only [jset_k, jset_j, jset_same, true_and, and_true, hA])
                first
                 | (exfalso; omega)
                 | (skip
                    refine e_if_ne 13 21 dX12_sell_10 (by decide) (by decide) rfl (fun h => absurd h (by decide)) (fun _ => ?_)
                    refine e_aload_n (i := 0) 14 dX12_sell_13 rfl rfl rfl ?_
                    refine e_iload_n (i := 2) 15 dX12_sell_14 rfl rfl rfl ?_
                    refine e_callV 18 mt_yX12_isPerson mv_yX12_isPerson wd_1506 (by decide) dX12_sell_15 at_928 jc_12 rfl rfl rfl (Nat.le_of_ble_eq_true rfl) (jroom (by decide)) rfl (m_isPerson (by (try simp (disch := omega) only [jset_k, jset_j, jset_same, true_and, and_true, hA]); omega) (fun w15 => ?_) (fun w15 => ?_))
                    · dsimp only [jpush]
                      (try simp (disch := omega) only [jset_k, jset_j, jset_same, true_and, and_true, hA] at w15)
                      (try simp (disch := omega) only [jset_k, jset_j, jset_same, true_and, and_true, hA])
                      first
                       | (exfalso; omega)
                       | (skip
                          refine e_if_ne 21 24 dX12_sell_18 (by decide) (by decide) rfl (fun _ => ?_) (fun h => absurd h (by decide))
                          refine e_iload_n (i := 1) 25 dX12_sell_24 rfl rfl rfl ?_
                          refine e_bipush 27 dX12_sell_25 (by decide) rfl ?_
                          have hg2 := w7.1
                          unfold tkGood at hg2
                          have ed : number.tdiv 100 = number / 100 := Int.tdiv_eq_ediv_of_nonneg (by omega)
                          refine e_idiv 28 dX12_sell_27 (by omega) (by decide) (by decide) rfl ?_
                          refine e_iconst 29 dX12_sell_28 rfl ?_
                          refine e_isub 30 dX12_sell_29 rfl ?_
                          rw [ed]
                          refine e_istore (lsn := [(4, _), (0, _), (1, _), (2, _), (3, _)]) 32 dX12_sell_30 (by decide) rfl rfl ?_
                          refine e_iload_n (i := 3) 33 dX12_sell_32 rfl rfl rfl ?_
                          refine e_i2l 34 dX12_sell_33 (by omega) rfl ?_
                          refine e_lconst0 35 dX12_sell_34 rfl ?_
                          refine e_ldc2 (z := (999)) 38 (ix := 198) wd_1482 (by decide) dX12_sell_35 rfl ?_
                          refine e_callS 41 mt_yX12_within ms_yX12_within wd_1390 (by decide) dX12_sell_38 rfl rfl (Nat.le_of_ble_eq_true rfl) (jroom (by decide)) rfl (m_within (by (try simp (disch := omega) only [jset_k, jset_j, jset_same, true_and, and_true, hA]); omega) (by (try simp (disch := omega) only [jset_k, jset_j, jset_same, true_and, and_true, hA]); omega) (by (try simp (disch := omega) only [jset_k, jset_j, jset_same, true_and, and_true, hA]); omega) (fun w38 => ?_) (fun w38 => ?_))
                          · dsimp only [jpush]
                            (try simp (disch := omega) only [jset_k, jset_j, jset_same, true_and, and_true, hA] at w38)
                            (try simp (disch := omega) only [jset_k, jset_j, jset_same, true_and, and_true, hA])
                            first
                             | (exfalso; omega)
                             | (skip
                                refine e_if_eq 44 59 dX12_sell_41 (by decide) (by decide) rfl (fun h => absurd h (by decide)) (fun _ => ?_)
                                refine e_aload_n (i := 0) 45 dX12_sell_44 rfl rfl rfl ?_
                                refine e_getr (j := 1) 48 fl_12_13 dX12_sell_45 at_928 rfl rfl tp_928_1 rfl ?_
                                refine e_sipush 51 dX12_sell_48 (by decide) rfl ?_
                                refine e_iload 53 dX12_sell_51 rfl rfl ?_
                                refine e_iadd 54 dX12_sell_53 rfl ?_
                                refine e_iald 55 dX12_sell_54 ar_929 (by omega) (by omega) rfl (fun r54 => ?_)
                                simp (disch := omega) only [jset_k, jset_j, jset_same, true_and, and_true, hA] at r54 ⊢
                                refine e_iload_n (i := 2) 56 dX12_sell_55 rfl rfl rfl ?_
                                refine e_icmp_ne 59 62 dX12_sell_56 (by omega) (by omega) (by decide) rfl (fun b56 => ?_) (fun b56 => ?_)
                                · first
                                   | (exfalso; omega)
                                   | (skip
                                      refine e_aload_n (i := 0) 63 dX12_sell_62 rfl rfl rfl ?_
                                      refine e_getr (j := 1) 66 fl_12_13 dX12_sell_63 at_928 rfl rfl tp_928_1 rfl ?_
                                      refine e_sipush 69 dX12_sell_66 (by decide) rfl ?_
                                      refine e_iload_n (i := 2) 70 dX12_sell_69 rfl rfl rfl ?_
                                      refine e_iadd 71 dX12_sell_70 rfl ?_
                                      refine e_iald 72 dX12_sell_71 ar_929 (by omega) (by omega) rfl (fun r71 => ?_)
                                      simp (disch := omega) only [jset_k, jset_j, jset_same, true_and, and_true, hA] at r71 ⊢
                                      refine e_iconst 73 dX12_sell_72 rfl ?_
                                      refine e_iload_n (i := 3) 74 dX12_sell_73 rfl rfl rfl ?_
                                      refine e_imul 75 dX12_sell_74 rfl ?_
                                      refine e_icmp_ge 78 81 dX12_sell_75 (by omega) (by omega) (by decide) rfl (fun b75 => ?_) (fun b75 => ?_)
                                      · first
                                         | (exfalso; omega)
                                         | (skip
                                            refine e_aload_n (i := 0) 82 dX12_sell_81 rfl rfl rfl ?_
                                            refine e_getr (j := 1) 85 fl_12_13 dX12_sell_82 at_928 rfl rfl tp_928_1 rfl ?_
                                            refine e_sipush 88 dX12_sell_85 (by decide) rfl ?_
                                            refine e_iload_n (i := 2) 89 dX12_sell_88 rfl rfl rfl ?_
                                            refine e_iadd 90 dX12_sell_89 rfl ?_
                                            refine e_dup2 91 dX12_sell_90 rfl rfl rfl ?_
                                            refine e_iald 92 dX12_sell_91 ar_929 (by omega) (by omega) rfl (fun r91 => ?_)
                                            simp (disch := omega) only [jset_k, jset_j, jset_same, true_and, and_true, hA] at r91 ⊢
                                            refine e_iconst 93 dX12_sell_92 rfl ?_
                                            refine e_iload_n (i := 3) 94 dX12_sell_93 rfl rfl rfl ?_
                                            refine e_imul 95 dX12_sell_94 rfl ?_
                                            refine e_isub 96 dX12_sell_95 rfl ?_
                                            refine e_iastw 97 dX12_sell_96 ar_929 (by omega) (by omega) rfl ?_
                                            refine e_aload_n (i := 0) 98 dX12_sell_97 rfl rfl rfl ?_
                                            refine e_getr (j := 1) 101 fl_12_13 dX12_sell_98 at_928 rfl rfl tp_928_1 rfl ?_
                                            refine e_sipush 104 dX12_sell_101 (by decide) rfl ?_
                                            refine e_aload_n (i := 0) 105 dX12_sell_104 rfl rfl rfl ?_
                                            refine e_getr (j := 1) 108 fl_12_13 dX12_sell_105 at_928 rfl rfl tp_928_1 rfl ?_
                                            refine e_sipush 111 dX12_sell_108 (by decide) rfl ?_
                                            refine e_iload 113 dX12_sell_111 rfl rfl ?_
                                            refine e_iadd 114 dX12_sell_113 rfl ?_
                                            refine e_iald 115 dX12_sell_114 ar_929 (by omega) (by omega) rfl (fun r114 => ?_)
                                            simp (disch := omega) only [jset_k, jset_j, jset_same, true_and, and_true, hA] at r114 ⊢
                                            refine e_iadd 116 dX12_sell_115 rfl ?_
                                            refine e_dup2 117 dX12_sell_116 rfl rfl rfl ?_
                                            refine e_iald 118 dX12_sell_117 ar_929 (by omega) (by omega) rfl (fun r117 => ?_)
                                            simp (disch := omega) only [jset_k, jset_j, jset_same, true_and, and_true, hA] at r117 ⊢
                                            refine e_iconst 119 dX12_sell_118 rfl ?_
                                            refine e_iload_n (i := 3) 120 dX12_sell_119 rfl rfl rfl ?_
                                            refine e_imul 121 dX12_sell_120 rfl ?_
                                            refine e_iadd 122 dX12_sell_121 rfl ?_
                                            refine e_iastw 123 dX12_sell_122 ar_929 (by omega) (by omega) rfl ?_
                                            refine e_aload_n (i := 0) 124 dX12_sell_123 rfl rfl rfl ?_
                                            refine e_getr (j := 1) 127 fl_12_13 dX12_sell_124 at_928 rfl rfl tp_928_1 rfl ?_
                                            refine e_sipush 130 dX12_sell_127 (by decide) rfl ?_
                                            refine e_iload 132 dX12_sell_130 rfl rfl ?_
                                            refine e_iadd 133 dX12_sell_132 rfl ?_
                                            refine e_iload_n (i := 2) 134 dX12_sell_133 rfl rfl rfl ?_
                                            refine e_iast 135 dX12_sell_134 ar_929 (by omega) (by omega) (by omega) rfl ?_
                                            refine e_iconst 136 dX12_sell_135 rfl ?_
                                            refine e_iret dX12_sell_136 ?_
                                            first
                                              | (exact ⟨by omega, hI⟩)
                                              | (exfalso; omega)
                                              | ((try subst hM1)
                                                 refine ⟨by omega, ?_⟩
                                                 refine hI.live ?_ ?_ ?_
                                                 · repeat (first | exact Live.rf | refine Live.c ?_ (by omega) | refine Live.r ?_ (by omega) | refine Live.s ?_ (by omega))
                                                 · refine ⟨?_, ?_, ?_, ?_, ?_, ?_, ?_, ?_, ?_, ?_, ?_⟩
                                                   · exact hI.2.1.1.fr (fun i hi => by simp (disch := omega) only [jset_k, jset_j, jset_same, true_and, and_true])
                                                   · exact hI.2.1.2.1.fr (fun i a b => by simp (disch := omega) only [jset_k, jset_j, jset_same, true_and, and_true])
                                                   · exact hI.2.1.2.2.1.fr (fun i a b => by simp (disch := omega) only [jset_k, jset_j, jset_same, true_and, and_true])
                                                   · exact hI.2.1.2.2.2.1.fr (by omega) (fun i a b => by simp (disch := omega) only [jset_k, jset_j, jset_same, true_and, and_true])
                                                   · exact hI.2.1.2.2.2.2.1.fr (by omega) (fun i a b => by simp (disch := omega) only [jset_k, jset_j, jset_same, true_and, and_true]) (fun i a b => by simp (disch := omega) only [jset_k, jset_j, jset_same, true_and, and_true])
                                                   · exact hI.2.1.2.2.2.2.2.1.fr (by omega) (fun i a b => by simp (disch := omega) only [jset_k, jset_j, jset_same, true_and, and_true]) (fun i a b => by simp (disch := omega) only [jset_k, jset_j, jset_same, true_and, and_true]) (by simp (disch := omega) only [jset_k, jset_j, jset_same, true_and, and_true]; omega)
                                                   · exact hI.2.1.2.2.2.2.2.2.1.fr (by omega) (by simp (disch := omega) only [jset_k, jset_j, jset_same, true_and, and_true]) (fun i a b => by simp (disch := omega) only [jset_k, jset_j, jset_same, true_and, and_true])
                                                   · intro t h0 h1
                                                     simp (disch := omega) only [jset_k, jset_j, jset_same, true_and, and_true] at h1
                                                     have h := hI.2.1.2.2.2.2.2.2.2.1 t h0 h1
                                                     by_cases e : t = number / 100 - 1
                                                     · subst e
                                                       simp (disch := omega) only [jset_k, jset_j, jset_same, true_and, and_true]
                                                       omega
                                                     · simp (disch := omega) only [jset_k, jset_j, jset_same, true_and, and_true]
                                                       exact h
                                                   · exact hI.2.1.2.2.2.2.2.2.2.2.1.fr (by omega) (fun i a b => by simp (disch := omega) only [jset_k, jset_j, jset_same, true_and, and_true])
                                                   · exact hI.2.1.2.2.2.2.2.2.2.2.2.1.fr (fun i a b => by simp (disch := omega) only [jset_k, jset_j, jset_same, true_and, and_true])
                                                   · exact hI.2.1.2.2.2.2.2.2.2.2.2.2.fr (fun i a b => by simp (disch := omega) only [jset_k, jset_j, jset_same, true_and, and_true])
                                                 · refine ⟨?_, ?_, ?_, ?_, ?_, ?_, ?_, ?_, ?_, ?_, ?_, ?_⟩
                                                   · exact hI.2.2.1.1.fr (fun j => by show _ = M (1 + 0) j; unfold cv; simp (disch := omega) only [jset_k, jset_j, jset_same, true_and, and_true]) (fun i hi => by simp (disch := omega) only [jset_k, jset_j, jset_same, true_and, and_true])
                                                   · exact hI.2.2.1.2.1.fr hI.2.1.2.1 (by omega) (fun k j a b => by show _ = M (1 + k) j; unfold cv; simp (disch := omega) only [jset_k, jset_j, jset_same, true_and, and_true]) (fun i a b => by simp (disch := omega) only [jset_k, jset_j, jset_same, true_and, and_true])
                                                   · exact hI.2.2.1.2.2.1.fr hI.2.1.2.2.1 (by omega) (fun k j a b => by show _ = M (1 + k) j; unfold cv; simp (disch := omega) only [jset_k, jset_j, jset_same, true_and, and_true]) (fun i a b => by simp (disch := omega) only [jset_k, jset_j, jset_same, true_and, and_true])
                                                   · exact hI.2.2.1.2.2.2.1.fr (by omega) (fun k j a b => by show _ = M (1 + k) j; unfold cv; simp (disch := omega) only [jset_k, jset_j, jset_same, true_and, and_true]) (fun i a b => by simp (disch := omega) only [jset_k, jset_j, jset_same, true_and, and_true])
                                                   · intro q h0 h1
                                                     simp (disch := omega) only [jset_k, jset_j, jset_same, true_and, and_true] at h1
                                                     simp only [cv1, Int.reduceAdd]
                                                     have h := (hC.pers h0 h1).1
                                                     by_cases e : q = person
                                                     · subst e
                                                       simp (disch := omega) only [jset_k, jset_j, jset_same, true_and, and_true]
                                                       exact ⟨by omega, by omega, by omega, congrArg w32 (by omega), by omega⟩
                                                     · by_cases e2 : q = M 929 (1461 + (number / 100 - 1))
                                                       · have e3 : M (144 + (number / 100 - 1)) 1 = q := by omega
                                                         rw [e3, ← e2]
                                                         simp (disch := omega) only [jset_k, jset_j, jset_same, true_and, and_true]
                                                         exact ⟨by omega, by omega, by omega, congrArg w32 (by omega), by omega⟩
                                                       · simp (disch := omega) only [jset_k, jset_j, jset_same, true_and, and_true]
                                                         exact h
                                                   · exact hI.2.2.1.2.2.2.2.2.1.fr (by omega) (fun k j a b => by show _ = M (1 + k) j; unfold cv; simp (disch := omega) only [jset_k, jset_j, jset_same, true_and, and_true]) (fun i a b => by simp (disch := omega) only [jset_k, jset_j, jset_same, true_and, and_true]) (fun i a b => by simp (disch := omega) only [jset_k, jset_j, jset_same, true_and, and_true])
                                                   · intro t h0 h1
                                                     simp (disch := omega) only [jset_k, jset_j, jset_same, true_and, and_true] at h1
                                                     simp only [cv1, Int.reduceAdd]
                                                     have h := (hC.tk h0 h1).1
                                                     by_cases e : t = number / 100 - 1
                                                     · subst e
                                                       simp (disch := omega) only [jset_k, jset_j, jset_same, true_and, and_true]
                                                       first | omega | exact ⟨by omega, rfl, by omega, by omega⟩
                                                     · simp (disch := omega) only [jset_k, jset_j, jset_same, true_and, and_true]
                                                       exact h
                                                   · exact hI.2.2.1.2.2.2.2.2.2.2.1.fr (by omega) (fun k j a b => by show _ = M (1 + k) j; unfold cv; simp (disch := omega) only [jset_k, jset_j, jset_same, true_and, and_true]) (fun i a b => by simp (disch := omega) only [jset_k, jset_j, jset_same, true_and, and_true])
                                                   · exact hI.2.2.1.2.2.2.2.2.2.2.2.1.fr (fun k j a b => by show _ = M (1 + k) j; unfold cv; simp (disch := omega) only [jset_k, jset_j, jset_same, true_and, and_true]) (fun i a b => by simp (disch := omega) only [jset_k, jset_j, jset_same, true_and, and_true])
                                                   · exact hI.2.2.1.2.2.2.2.2.2.2.2.2.1.fr (fun k j a b => by show _ = M (1 + k) j; unfold cv; simp (disch := omega) only [jset_k, jset_j, jset_same, true_and, and_true]) (fun i a b => by simp (disch := omega) only [jset_k, jset_j, jset_same, true_and, and_true])
                                                   · exact hI.2.2.1.2.2.2.2.2.2.2.2.2.2.1.fr (by omega) (fun k j a b => by show _ = M (1 + k) j; unfold cv; simp (disch := omega) only [jset_k, jset_j, jset_same, true_and, and_true]) (fun i a b => by simp (disch := omega) only [jset_k, jset_j, jset_same, true_and, and_true])
                                                   · exact hI.2.2.1.2.2.2.2.2.2.2.2.2.2.2.fr hI.2.1.2.2.2.2.2.2.2.2.2.2 (fun k j a b => by show _ = M (1 + k) j; unfold cv; simp (disch := omega) only [jset_k, jset_j, jset_same, true_and, and_true]) (fun i a b => by simp (disch := omega) only [jset_k, jset_j, jset_same, true_and, and_true])))
                                      · first
                                         | (exfalso; omega)
                                         | (skip
                                            refine e_bipush 80 dX12_sell_78 (by decide) rfl ?_
                                            refine e_iret dX12_sell_80 ?_
                                            first
                                              | (exact ⟨by omega, hI⟩)
                                              | (exfalso; omega)
                                              | ((try subst hM1)
                                                 refine ⟨by omega, ?_⟩
                                                 refine hI.live ?_ ?_ ?_
                                                 · repeat (first | exact Live.rf | refine Live.c ?_ (by omega) | refine Live.r ?_ (by omega) | refine Live.s ?_ (by omega))
                                                 · refine ⟨?_, ?_, ?_, ?_, ?_, ?_, ?_, ?_, ?_, ?_, ?_⟩
                                                   · exact hI.2.1.1.fr (fun i hi => by simp (disch := omega) only [jset_k, jset_j, jset_same, true_and, and_true])
                                                   · exact hI.2.1.2.1.fr (fun i a b => by simp (disch := omega) only [jset_k, jset_j, jset_same, true_and, and_true])
                                                   · exact hI.2.1.2.2.1.fr (fun i a b => by simp (disch := omega) only [jset_k, jset_j, jset_same, true_and, and_true])
                                                   · exact hI.2.1.2.2.2.1.fr (by omega) (fun i a b => by simp (disch := omega) only [jset_k, jset_j, jset_same, true_and, and_true])
                                                   · exact hI.2.1.2.2.2.2.1.fr (by omega) (fun i a b => by simp (disch := omega) only [jset_k, jset_j, jset_same, true_and, and_true]) (fun i a b => by simp (disch := omega) only [jset_k, jset_j, jset_same, true_and, and_true])
                                                   · exact hI.2.1.2.2.2.2.2.1.fr (by omega) (fun i a b => by simp (disch := omega) only [jset_k, jset_j, jset_same, true_and, and_true]) (fun i a b => by simp (disch := omega) only [jset_k, jset_j, jset_same, true_and, and_true]) (by simp (disch := omega) only [jset_k, jset_j, jset_same, true_and, and_true]; omega)
                                                   · exact hI.2.1.2.2.2.2.2.2.1.fr (by omega) (by simp (disch := omega) only [jset_k, jset_j, jset_same, true_and, and_true]) (fun i a b => by simp (disch := omega) only [jset_k, jset_j, jset_same, true_and, and_true])
                                                   · intro t h0 h1
                                                     simp (disch := omega) only [jset_k, jset_j, jset_same, true_and, and_true] at h1
                                                     have h := hI.2.1.2.2.2.2.2.2.2.1 t h0 h1
                                                     by_cases e : t = number / 100 - 1
                                                     · subst e
                                                       simp (disch := omega) only [jset_k, jset_j, jset_same, true_and, and_true]
                                                       omega
                                                     · simp (disch := omega) only [jset_k, jset_j, jset_same, true_and, and_true]
                                                       exact h
                                                   · exact hI.2.1.2.2.2.2.2.2.2.2.1.fr (by omega) (fun i a b => by simp (disch := omega) only [jset_k, jset_j, jset_same, true_and, and_true])
                                                   · exact hI.2.1.2.2.2.2.2.2.2.2.2.1.fr (fun i a b => by simp (disch := omega) only [jset_k, jset_j, jset_same, true_and, and_true])
                                                   · exact hI.2.1.2.2.2.2.2.2.2.2.2.2.fr (fun i a b => by simp (disch := omega) only [jset_k, jset_j, jset_same, true_and, and_true])
                                                 · refine ⟨?_, ?_, ?_, ?_, ?_, ?_, ?_, ?_, ?_, ?_, ?_, ?_⟩
                                                   · exact hI.2.2.1.1.fr (fun j => by show _ = M (1 + 0) j; unfold cv; simp (disch := omega) only [jset_k, jset_j, jset_same, true_and, and_true]) (fun i hi => by simp (disch := omega) only [jset_k, jset_j, jset_same, true_and, and_true])
                                                   · exact hI.2.2.1.2.1.fr hI.2.1.2.1 (by omega) (fun k j a b => by show _ = M (1 + k) j; unfold cv; simp (disch := omega) only [jset_k, jset_j, jset_same, true_and, and_true]) (fun i a b => by simp (disch := omega) only [jset_k, jset_j, jset_same, true_and, and_true])
                                                   · exact hI.2.2.1.2.2.1.fr hI.2.1.2.2.1 (by omega) (fun k j a b => by show _ = M (1 + k) j; unfold cv; simp (disch := omega) only [jset_k, jset_j, jset_same, true_and, and_true]) (fun i a b => by simp (disch := omega) only [jset_k, jset_j, jset_same, true_and, and_true])
                                                   · exact hI.2.2.1.2.2.2.1.fr (by omega) (fun k j a b => by show _ = M (1 + k) j; unfold cv; simp (disch := omega) only [jset_k, jset_j, jset_same, true_and, and_true]) (fun i a b => by simp (disch := omega) only [jset_k, jset_j, jset_same, true_and, and_true])
                                                   · intro q h0 h1
                                                     simp (disch := omega) only [jset_k, jset_j, jset_same, true_and, and_true] at h1
                                                     simp only [cv1, Int.reduceAdd]
                                                     have h := (hC.pers h0 h1).1
                                                     by_cases e : q = person
                                                     · subst e
                                                       simp (disch := omega) only [jset_k, jset_j, jset_same, true_and, and_true]
                                                       exact ⟨by omega, by omega, by omega, congrArg w32 (by omega), by omega⟩
                                                     · by_cases e2 : q = M 929 (1461 + (number / 100 - 1))
                                                       · have e3 : M (144 + (number / 100 - 1)) 1 = q := by omega
                                                         rw [e3, ← e2]
                                                         simp (disch := omega) only [jset_k, jset_j, jset_same, true_and, and_true]
                                                         exact ⟨by omega, by omega, by omega, congrArg w32 (by omega), by omega⟩
                                                       · simp (disch := omega) only [jset_k, jset_j, jset_same, true_and, and_true]
                                                         exact h
                                                   · exact hI.2.2.1.2.2.2.2.2.1.fr (by omega) (fun k j a b => by show _ = M (1 + k) j; unfold cv; simp (disch := omega) only [jset_k, jset_j, jset_same, true_and, and_true]) (fun i a b => by simp (disch := omega) only [jset_k, jset_j, jset_same, true_and, and_true]) (fun i a b => by simp (disch := omega) only [jset_k, jset_j, jset_same, true_and, and_true])
                                                   · intro t h0 h1
                                                     simp (disch := omega) only [jset_k, jset_j, jset_same, true_and, and_true] at h1
                                                     simp only [cv1, Int.reduceAdd]
                                                     have h := (hC.tk h0 h1).1
                                                     by_cases e : t = number / 100 - 1
                                                     · subst e
                                                       simp (disch := omega) only [jset_k, jset_j, jset_same, true_and, and_true]
                                                       first | omega | exact ⟨by omega, rfl, by omega, by omega⟩
                                                     · simp (disch := omega) only [jset_k, jset_j, jset_same, true_and, and_true]
                                                       exact h
                                                   · exact hI.2.2.1.2.2.2.2.2.2.2.1.fr (by omega) (fun k j a b => by show _ = M (1 + k) j; unfold cv; simp (disch := omega) only [jset_k, jset_j, jset_same, true_and, and_true]) (fun i a b => by simp (disch := omega) only [jset_k, jset_j, jset_same, true_and, and_true])
                                                   · exact hI.2.2.1.2.2.2.2.2.2.2.2.1.fr (fun k j a b => by show _ = M (1 + k) j; unfold cv; simp (disch := omega) only [jset_k, jset_j, jset_same, true_and, and_true]) (fun i a b => by simp (disch := omega) only [jset_k, jset_j, jset_same, true_and, and_true])
                                                   · exact hI.2.2.1.2.2.2.2.2.2.2.2.2.1.fr (fun k j a b => by show _ = M (1 + k) j; unfold cv; simp (disch := omega) only [jset_k, jset_j, jset_same, true_and, and_true]) (fun i a b => by simp (disch := omega) only [jset_k, jset_j, jset_same, true_and, and_true])
                                                   · exact hI.2.2.1.2.2.2.2.2.2.2.2.2.2.1.fr (by omega) (fun k j a b => by show _ = M (1 + k) j; unfold cv; simp (disch := omega) only [jset_k, jset_j, jset_same, true_and, and_true]) (fun i a b => by simp (disch := omega) only [jset_k, jset_j, jset_same, true_and, and_true])
                                                   · exact hI.2.2.1.2.2.2.2.2.2.2.2.2.2.2.fr hI.2.1.2.2.2.2.2.2.2.2.2.2 (fun k j a b => by show _ = M (1 + k) j; unfold cv; simp (disch := omega) only [jset_k, jset_j, jset_same, true_and, and_true]) (fun i a b => by simp (disch := omega) only [jset_k, jset_j, jset_same, true_and, and_true]))))
                                · first
                                   | (exfalso; omega)
                                   | (skip
                                      refine e_bipush 61 dX12_sell_59 (by decide) rfl ?_
                                      refine e_iret dX12_sell_61 ?_
                                      first
                                        | (exact ⟨by omega, hI⟩)
                                        | (exfalso; omega)
                                        | ((try subst hM1)
                                           refine ⟨by omega, ?_⟩
                                           refine hI.live ?_ ?_ ?_
                                           · repeat (first | exact Live.rf | refine Live.c ?_ (by omega) | refine Live.r ?_ (by omega) | refine Live.s ?_ (by omega))
                                           · refine ⟨?_, ?_, ?_, ?_, ?_, ?_, ?_, ?_, ?_, ?_, ?_⟩
                                             · exact hI.2.1.1.fr (fun i hi => by simp (disch := omega) only [jset_k, jset_j, jset_same, true_and, and_true])
                                             · exact hI.2.1.2.1.fr (fun i a b => by simp (disch := omega) only [jset_k, jset_j, jset_same, true_and, and_true])
                                             · exact hI.2.1.2.2.1.fr (fun i a b => by simp (disch := omega) only [jset_k, jset_j, jset_same, true_and, and_true])
                                             · exact hI.2.1.2.2.2.1.fr (by omega) (fun i a b => by simp (disch := omega) only [jset_k, jset_j, jset_same, true_and, and_true])
                                             · exact hI.2.1.2.2.2.2.1.fr (by omega) (fun i a b => by simp (disch := omega) only [jset_k, jset_j, jset_same, true_and, and_true]) (fun i a b => by simp (disch := omega) only [jset_k, jset_j, jset_same, true_and, and_true])
                                             · exact hI.2.1.2.2.2.2.2.1.fr (by omega) (fun i a b => by simp (disch := omega) only [jset_k, jset_j, jset_same, true_and, and_true]) (fun i a b => by simp (disch := omega) only [jset_k, jset_j, jset_same, true_and, and_true]) (by simp (disch := omega) only [jset_k, jset_j, jset_same, true_and, and_true]; omega)
                                             · exact hI.2.1.2.2.2.2.2.2.1.fr (by omega) (by simp (disch := omega) only [jset_k, jset_j, jset_same, true_and, and_true]) (fun i a b => by simp (disch := omega) only [jset_k, jset_j, jset_same, true_and, and_true])
                                             · intro t h0 h1
                                               simp (disch := omega) only [jset_k, jset_j, jset_same, true_and, and_true] at h1
                                               have h := hI.2.1.2.2.2.2.2.2.2.1 t h0 h1
                                               by_cases e : t = number / 100 - 1
                                               · subst e
                                                 simp (disch := omega) only [jset_k, jset_j, jset_same, true_and, and_true]
                                                 omega
                                               · simp (disch := omega) only [jset_k, jset_j, jset_same, true_and, and_true]
                                                 exact h
                                             · exact hI.2.1.2.2.2.2.2.2.2.2.1.fr (by omega) (fun i a b => by simp (disch := omega) only [jset_k, jset_j, jset_same, true_and, and_true])
                                             · exact hI.2.1.2.2.2.2.2.2.2.2.2.1.fr (fun i a b => by simp (disch := omega) only [jset_k, jset_j, jset_same, true_and, and_true])
                                             · exact hI.2.1.2.2.2.2.2.2.2.2.2.2.fr (fun i a b => by simp (disch := omega) only [jset_k, jset_j, jset_same, true_and, and_true])
                                           · refine ⟨?_, ?_, ?_, ?_, ?_, ?_, ?_, ?_, ?_, ?_, ?_, ?_⟩
                                             · exact hI.2.2.1.1.fr (fun j => by show _ = M (1 + 0) j; unfold cv; simp (disch := omega) only [jset_k, jset_j, jset_same, true_and, and_true]) (fun i hi => by simp (disch := omega) only [jset_k, jset_j, jset_same, true_and, and_true])
                                             · exact hI.2.2.1.2.1.fr hI.2.1.2.1 (by omega) (fun k j a b => by show _ = M (1 + k) j; unfold cv; simp (disch := omega) only [jset_k, jset_j, jset_same, true_and, and_true]) (fun i a b => by simp (disch := omega) only [jset_k, jset_j, jset_same, true_and, and_true])
                                             · exact hI.2.2.1.2.2.1.fr hI.2.1.2.2.1 (by omega) (fun k j a b => by show _ = M (1 + k) j; unfold cv; simp (disch := omega) only [jset_k, jset_j, jset_same, true_and, and_true]) (fun i a b => by simp (disch := omega) only [jset_k, jset_j, jset_same, true_and, and_true])
                                             · exact hI.2.2.1.2.2.2.1.fr (by omega) (fun k j a b => by show _ = M (1 + k) j; unfold cv; simp (disch := omega) only [jset_k, jset_j, jset_same, true_and, and_true]) (fun i a b => by simp (disch := omega) only [jset_k, jset_j, jset_same, true_and, and_true])
                                             · intro q h0 h1
                                               simp (disch := omega) only [jset_k, jset_j, jset_same, true_and, and_true] at h1
                                               simp only [cv1, Int.reduceAdd]
                                               have h := (hC.pers h0 h1).1
                                               by_cases e : q = person
                                               · subst e
                                                 simp (disch := omega) only [jset_k, jset_j, jset_same, true_and, and_true]
                                                 exact ⟨by omega, by omega, by omega, congrArg w32 (by omega), by omega⟩
                                               · by_cases e2 : q = M 929 (1461 + (number / 100 - 1))
                                                 · have e3 : M (144 + (number / 100 - 1)) 1 = q := by omega
                                                   rw [e3, ← e2]
                                                   simp (disch := omega) only [jset_k, jset_j, jset_same, true_and, and_true]
                                                   exact ⟨by omega, by omega, by omega, congrArg w32 (by omega), by omega⟩
                                                 · simp (disch := omega) only [jset_k, jset_j, jset_same, true_and, and_true]
                                                   exact h
                                             · exact hI.2.2.1.2.2.2.2.2.1.fr (by omega) (fun k j a b => by show _ = M (1 + k) j; unfold cv; simp (disch := omega) only [jset_k, jset_j, jset_same, true_and, and_true]) (fun i a b => by simp (disch := omega) only [jset_k, jset_j, jset_same, true_and, and_true]) (fun i a b => by simp (disch := omega) only [jset_k, jset_j, jset_same, true_and, and_true])
                                             · intro t h0 h1
                                               simp (disch := omega) only [jset_k, jset_j, jset_same, true_and, and_true] at h1
                                               simp only [cv1, Int.reduceAdd]
                                               have h := (hC.tk h0 h1).1
                                               by_cases e : t = number / 100 - 1
                                               · subst e
                                                 simp (disch := omega) only [jset_k, jset_j, jset_same, true_and, and_true]
                                                 first | omega | exact ⟨by omega, rfl, by omega, by omega⟩
                                               · simp (disch := omega) only [jset_k, jset_j, jset_same, true_and, and_true]
                                                 exact h
                                             · exact hI.2.2.1.2.2.2.2.2.2.2.1.fr (by omega) (fun k j a b => by show _ = M (1 + k) j; unfold cv; simp (disch := omega) only [jset_k, jset_j, jset_same, true_and, and_true]) (fun i a b => by simp (disch := omega) only [jset_k, jset_j, jset_same, true_and, and_true])
                                             · exact hI.2.2.1.2.2.2.2.2.2.2.2.1.fr (fun k j a b => by show _ = M (1 + k) j; unfold cv; simp (disch := omega) only [jset_k, jset_j, jset_same, true_and, and_true]) (fun i a b => by simp (disch := omega) only [jset_k, jset_j, jset_same, true_and, and_true])
                                             · exact hI.2.2.1.2.2.2.2.2.2.2.2.2.1.fr (fun k j a b => by show _ = M (1 + k) j; unfold cv; simp (disch := omega) only [jset_k, jset_j, jset_same, true_and, and_true]) (fun i a b => by simp (disch := omega) only [jset_k, jset_j, jset_same, true_and, and_true])
                                             · exact hI.2.2.1.2.2.2.2.2.2.2.2.2.2.1.fr (by omega) (fun k j a b => by show _ = M (1 + k) j; unfold cv; simp (disch := omega) only [jset_k, jset_j, jset_same, true_and, and_true]) (fun i a b => by simp (disch := omega) only [jset_k, jset_j, jset_same, true_and, and_true])
                                             · exact hI.2.2.1.2.2.2.2.2.2.2.2.2.2.2.fr hI.2.1.2.2.2.2.2.2.2.2.2.2 (fun k j a b => by show _ = M (1 + k) j; unfold cv; simp (disch := omega) only [jset_k, jset_j, jset_same, true_and, and_true]) (fun i a b => by simp (disch := omega) only [jset_k, jset_j, jset_same, true_and, and_true]))))
                          · dsimp only [jpush]
                            (try simp (disch := omega) only [jset_k, jset_j, jset_same, true_and, and_true, hA] at w38)
                            (try simp (disch := omega) only [jset_k, jset_j, jset_same, true_and, and_true, hA])
                            first
                             | (exfalso; omega)
                             | (skip
                                refine e_if_eq 44 59 dX12_sell_41 (by decide) (by decide) rfl (fun _ => ?_) (fun h => absurd h (by decide))
                                refine e_bipush 61 dX12_sell_59 (by decide) rfl ?_
                                refine e_iret dX12_sell_61 ?_
                                first
                                  | (exact ⟨by omega, hI⟩)
                                  | (exfalso; omega)
                                  | ((try subst hM1)
                                     refine ⟨by omega, ?_⟩
                                     refine hI.live ?_ ?_ ?_
                                     · repeat (first | exact Live.rf | refine Live.c ?_ (by omega) | refine Live.r ?_ (by omega) | refine Live.s ?_ (by omega))
                                     · refine ⟨?_, ?_, ?_, ?_, ?_, ?_, ?_, ?_, ?_, ?_, ?_⟩
                                       · exact hI.2.1.1.fr (fun i hi => by simp (disch := omega) only [jset_k, jset_j, jset_same, true_and, and_true])
                                       · exact hI.2.1.2.1.fr (fun i a b => by simp (disch := omega) only [jset_k, jset_j, jset_same, true_and, and_true])
                                       · exact hI.2.1.2.2.1.fr (fun i a b => by simp (disch := omega) only [jset_k, jset_j, jset_same, true_and, and_true])
                                       · exact hI.2.1.2.2.2.1.fr (by omega) (fun i a b => by simp (disch := omega) only [jset_k, jset_j, jset_same, true_and, and_true])
                                       · exact hI.2.1.2.2.2.2.1.fr (by omega) (fun i a b => by simp (disch := omega) only [jset_k, jset_j, jset_same, true_and, and_true]) (fun i a b => by simp (disch := omega) only [jset_k, jset_j, jset_same, true_and, and_true])
                                       · exact hI.2.1.2.2.2.2.2.1.fr (by omega) (fun i a b => by simp (disch := omega) only [jset_k, jset_j, jset_same, true_and, and_true]) (fun i a b => by simp (disch := omega) only [jset_k, jset_j, jset_same, true_and, and_true]) (by simp (disch := omega) only [jset_k, jset_j, jset_same, true_and, and_true]; omega)
                                       · exact hI.2.1.2.2.2.2.2.2.1.fr (by omega) (by simp (disch := omega) only [jset_k, jset_j, jset_same, true_and, and_true]) (fun i a b => by simp (disch := omega) only [jset_k, jset_j, jset_same, true_and, and_true])
                                       · intro t h0 h1
                                         simp (disch := omega) only [jset_k, jset_j, jset_same, true_and, and_true] at h1
                                         have h := hI.2.1.2.2.2.2.2.2.2.1 t h0 h1
                                         by_cases e : t = number / 100 - 1
                                         · subst e
                                           simp (disch := omega) only [jset_k, jset_j, jset_same, true_and, and_true]
                                           omega
                                         · simp (disch := omega) only [jset_k, jset_j, jset_same, true_and, and_true]
                                           exact h
                                       · exact hI.2.1.2.2.2.2.2.2.2.2.1.fr (by omega) (fun i a b => by simp (disch := omega) only [jset_k, jset_j, jset_same, true_and, and_true])
                                       · exact hI.2.1.2.2.2.2.2.2.2.2.2.1.fr (fun i a b => by simp (disch := omega) only [jset_k, jset_j, jset_same, true_and, and_true])
                                       · exact hI.2.1.2.2.2.2.2.2.2.2.2.2.fr (fun i a b => by simp (disch := omega) only [jset_k, jset_j, jset_same, true_and, and_true])
                                     · refine ⟨?_, ?_, ?_, ?_, ?_, ?_, ?_, ?_, ?_, ?_, ?_, ?_⟩
                                       · exact hI.2.2.1.1.fr (fun j => by show _ = M (1 + 0) j; unfold cv; simp (disch := omega) only [jset_k, jset_j, jset_same, true_and, and_true]) (fun i hi => by simp (disch := omega) only [jset_k, jset_j, jset_same, true_and, and_true])
                                       · exact hI.2.2.1.2.1.fr hI.2.1.2.1 (by omega) (fun k j a b => by show _ = M (1 + k) j; unfold cv; simp (disch := omega) only [jset_k, jset_j, jset_same, true_and, and_true]) (fun i a b => by simp (disch := omega) only [jset_k, jset_j, jset_same, true_and, and_true])
                                       · exact hI.2.2.1.2.2.1.fr hI.2.1.2.2.1 (by omega) (fun k j a b => by show _ = M (1 + k) j; unfold cv; simp (disch := omega) only [jset_k, jset_j, jset_same, true_and, and_true]) (fun i a b => by simp (disch := omega) only [jset_k, jset_j, jset_same, true_and, and_true])
                                       · exact hI.2.2.1.2.2.2.1.fr (by omega) (fun k j a b => by show _ = M (1 + k) j; unfold cv; simp (disch := omega) only [jset_k, jset_j, jset_same, true_and, and_true]) (fun i a b => by simp (disch := omega) only [jset_k, jset_j, jset_same, true_and, and_true])
                                       · intro q h0 h1
                                         simp (disch := omega) only [jset_k, jset_j, jset_same, true_and, and_true] at h1
                                         simp only [cv1, Int.reduceAdd]
                                         have h := (hC.pers h0 h1).1
                                         by_cases e : q = person
                                         · subst e
                                           simp (disch := omega) only [jset_k, jset_j, jset_same, true_and, and_true]
                                           exact ⟨by omega, by omega, by omega, congrArg w32 (by omega), by omega⟩
                                         · by_cases e2 : q = M 929 (1461 + (number / 100 - 1))
                                           · have e3 : M (144 + (number / 100 - 1)) 1 = q := by omega
                                             rw [e3, ← e2]
                                             simp (disch := omega) only [jset_k, jset_j, jset_same, true_and, and_true]
                                             exact ⟨by omega, by omega, by omega, congrArg w32 (by omega), by omega⟩
                                           · simp (disch := omega) only [jset_k, jset_j, jset_same, true_and, and_true]
                                             exact h
                                       · exact hI.2.2.1.2.2.2.2.2.1.fr (by omega) (fun k j a b => by show _ = M (1 + k) j; unfold cv; simp (disch := omega) only [jset_k, jset_j, jset_same, true_and, and_true]) (fun i a b => by simp (disch := omega) only [jset_k, jset_j, jset_same, true_and, and_true]) (fun i a b => by simp (disch := omega) only [jset_k, jset_j, jset_same, true_and, and_true])
                                       · intro t h0 h1
                                         simp (disch := omega) only [jset_k, jset_j, jset_same, true_and, and_true] at h1
                                         simp only [cv1, Int.reduceAdd]
                                         have h := (hC.tk h0 h1).1
                                         by_cases e : t = number / 100 - 1
                                         · subst e
                                           simp (disch := omega) only [jset_k, jset_j, jset_same, true_and, and_true]
                                           first | omega | exact ⟨by omega, rfl, by omega, by omega⟩
                                         · simp (disch := omega) only [jset_k, jset_j, jset_same, true_and, and_true]
                                           exact h
                                       · exact hI.2.2.1.2.2.2.2.2.2.2.1.fr (by omega) (fun k j a b => by show _ = M (1 + k) j; unfold cv; simp (disch := omega) only [jset_k, jset_j, jset_same, true_and, and_true]) (fun i a b => by simp (disch := omega) only [jset_k, jset_j, jset_same, true_and, and_true])
                                       · exact hI.2.2.1.2.2.2.2.2.2.2.2.1.fr (fun k j a b => by show _ = M (1 + k) j; unfold cv; simp (disch := omega) only [jset_k, jset_j, jset_same, true_and, and_true]) (fun i a b => by simp (disch := omega) only [jset_k, jset_j, jset_same, true_and, and_true])
                                       · exact hI.2.2.1.2.2.2.2.2.2.2.2.2.1.fr (fun k j a b => by show _ = M (1 + k) j; unfold cv; simp (disch := omega) only [jset_k, jset_j, jset_same, true_and, and_true]) (fun i a b => by simp (disch := omega) only [jset_k, jset_j, jset_same, true_and, and_true])
                                       · exact hI.2.2.1.2.2.2.2.2.2.2.2.2.2.1.fr (by omega) (fun k j a b => by show _ = M (1 + k) j; unfold cv; simp (disch := omega) only [jset_k, jset_j, jset_same, true_and, and_true]) (fun i a b => by simp (disch := omega) only [jset_k, jset_j, jset_same, true_and, and_true])
                                       · exact hI.2.2.1.2.2.2.2.2.2.2.2.2.2.2.fr hI.2.1.2.2.2.2.2.2.2.2.2.2 (fun k j a b => by show _ = M (1 + k) j; unfold cv; simp (disch := omega) only [jset_k, jset_j, jset_same, true_and, and_true]) (fun i a b => by simp (disch := omega) only [jset_k, jset_j, jset_same, true_and, and_true]))))
                    · dsimp only [jpush]
                      (try simp (disch := omega) only [jset_k, jset_j, jset_same, true_and, and_true, hA] at w15)
                      (try simp (disch := omega) only [jset_k, jset_j, jset_same, true_and, and_true, hA])
                      first
                       | (exfalso; omega)
                       | (skip
                          refine e_if_ne 21 24 dX12_sell_18 (by decide) (by decide) rfl (fun h => absurd h (by decide)) (fun _ => ?_)
                          refine e_bipush 23 dX12_sell_21 (by decide) rfl ?_
                          refine e_iret dX12_sell_23 ?_
                          first
                            | (exact ⟨by omega, hI⟩)
                            | (exfalso; omega)
                            | ((try subst hM1)
                               refine ⟨by omega, ?_⟩
                               refine hI.live ?_ ?_ ?_
                               · repeat (first | exact Live.rf | refine Live.c ?_ (by omega) | refine Live.r ?_ (by omega) | refine Live.s ?_ (by omega))
                               · refine ⟨?_, ?_, ?_, ?_, ?_, ?_, ?_, ?_, ?_, ?_, ?_⟩
                                 · exact hI.2.1.1.fr (fun i hi => by simp (disch := omega) only [jset_k, jset_j, jset_same, true_and, and_true])
                                 · exact hI.2.1.2.1.fr (fun i a b => by simp (disch := omega) only [jset_k, jset_j, jset_same, true_and, and_true])
                                 · exact hI.2.1.2.2.1.fr (fun i a b => by simp (disch := omega) only [jset_k, jset_j, jset_same, true_and, and_true])
                                 · exact hI.2.1.2.2.2.1.fr (by omega) (fun i a b => by simp (disch := omega) only [jset_k, jset_j, jset_same, true_and, and_true])
                                 · exact hI.2.1.2.2.2.2.1.fr (by omega) (fun i a b => by simp (disch := omega) only [jset_k, jset_j, jset_same, true_and, and_true]) (fun i a b => by simp (disch := omega) only [jset_k, jset_j, jset_same, true_and, and_true])
                                 · exact hI.2.1.2.2.2.2.2.1.fr (by omega) (fun i a b => by simp (disch := omega) only [jset_k, jset_j, jset_same, true_and, and_true]) (fun i a b => by simp (disch := omega) only [jset_k, jset_j, jset_same, true_and, and_true]) (by simp (disch := omega) only [jset_k, jset_j, jset_same, true_and, and_true]; omega)
                                 · exact hI.2.1.2.2.2.2.2.2.1.fr (by omega) (by simp (disch := omega) only [jset_k, jset_j, jset_same, true_and, and_true]) (fun i a b => by simp (disch := omega) only [jset_k, jset_j, jset_same, true_and, and_true])
                                 · intro t h0 h1
                                   simp (disch := omega) only [jset_k, jset_j, jset_same, true_and, and_true] at h1
                                   have h := hI.2.1.2.2.2.2.2.2.2.1 t h0 h1
                                   by_cases e : t = number / 100 - 1
                                   · subst e
                                     simp (disch := omega) only [jset_k, jset_j, jset_same, true_and, and_true]
                                     omega
                                   · simp (disch := omega) only [jset_k, jset_j, jset_same, true_and, and_true]
                                     exact h
                                 · exact hI.2.1.2.2.2.2.2.2.2.2.1.fr (by omega) (fun i a b => by simp (disch := omega) only [jset_k, jset_j, jset_same, true_and, and_true])
                                 · exact hI.2.1.2.2.2.2.2.2.2.2.2.1.fr (fun i a b => by simp (disch := omega) only [jset_k, jset_j, jset_same, true_and, and_true])
                                 · exact hI.2.1.2.2.2.2.2.2.2.2.2.2.fr (fun i a b => by simp (disch := omega) only [jset_k, jset_j, jset_same, true_and, and_true])
                               · refine ⟨?_, ?_, ?_, ?_, ?_, ?_, ?_, ?_, ?_, ?_, ?_, ?_⟩
                                 · exact hI.2.2.1.1.fr (fun j => by show _ = M (1 + 0) j; unfold cv; simp (disch := omega) only [jset_k, jset_j, jset_same, true_and, and_true]) (fun i hi => by simp (disch := omega) only [jset_k, jset_j, jset_same, true_and, and_true])
                                 · exact hI.2.2.1.2.1.fr hI.2.1.2.1 (by omega) (fun k j a b => by show _ = M (1 + k) j; unfold cv; simp (disch := omega) only [jset_k, jset_j, jset_same, true_and, and_true]) (fun i a b => by simp (disch := omega) only [jset_k, jset_j, jset_same, true_and, and_true])
                                 · exact hI.2.2.1.2.2.1.fr hI.2.1.2.2.1 (by omega) (fun k j a b => by show _ = M (1 + k) j; unfold cv; simp (disch := omega) only [jset_k, jset_j, jset_same, true_and, and_true]) (fun i a b => by simp (disch := omega) only [jset_k, jset_j, jset_same, true_and, and_true])
                                 · exact hI.2.2.1.2.2.2.1.fr (by omega) (fun k j a b => by show _ = M (1 + k) j; unfold cv; simp (disch := omega) only [jset_k, jset_j, jset_same, true_and, and_true]) (fun i a b => by simp (disch := omega) only [jset_k, jset_j, jset_same, true_and, and_true])
                                 · intro q h0 h1
                                   simp (disch := omega) only [jset_k, jset_j, jset_same, true_and, and_true] at h1
                                   simp only [cv1, Int.reduceAdd]
                                   have h := (hC.pers h0 h1).1
                                   by_cases e : q = person
                                   · subst e
                                     simp (disch := omega) only [jset_k, jset_j, jset_same, true_and, and_true]
                                     exact ⟨by omega, by omega, by omega, congrArg w32 (by omega), by omega⟩
                                   · by_cases e2 : q = M 929 (1461 + (number / 100 - 1))
                                     · have e3 : M (144 + (number / 100 - 1)) 1 = q := by omega
                                       rw [e3, ← e2]
                                       simp (disch := omega) only [jset_k, jset_j, jset_same, true_and, and_true]
                                       exact ⟨by omega, by omega, by omega, congrArg w32 (by omega), by omega⟩
                                     · simp (disch := omega) only [jset_k, jset_j, jset_same, true_and, and_true]
                                       exact h
                                 · exact hI.2.2.1.2.2.2.2.2.1.fr (by omega) (fun k j a b => by show _ = M (1 + k) j; unfold cv; simp (disch := omega) only [jset_k, jset_j, jset_same, true_and, and_true]) (fun i a b => by simp (disch := omega) only [jset_k, jset_j, jset_same, true_and, and_true]) (fun i a b => by simp (disch := omega) only [jset_k, jset_j, jset_same, true_and, and_true])
                                 · intro t h0 h1
                                   simp (disch := omega) only [jset_k, jset_j, jset_same, true_and, and_true] at h1
                                   simp only [cv1, Int.reduceAdd]
                                   have h := (hC.tk h0 h1).1
                                   by_cases e : t = number / 100 - 1
                                   · subst e
                                     simp (disch := omega) only [jset_k, jset_j, jset_same, true_and, and_true]
                                     first | omega | exact ⟨by omega, rfl, by omega, by omega⟩
                                   · simp (disch := omega) only [jset_k, jset_j, jset_same, true_and, and_true]
                                     exact h
                                 · exact hI.2.2.1.2.2.2.2.2.2.2.1.fr (by omega) (fun k j a b => by show _ = M (1 + k) j; unfold cv; simp (disch := omega) only [jset_k, jset_j, jset_same, true_and, and_true]) (fun i a b => by simp (disch := omega) only [jset_k, jset_j, jset_same, true_and, and_true])
                                 · exact hI.2.2.1.2.2.2.2.2.2.2.2.1.fr (fun k j a b => by show _ = M (1 + k) j; unfold cv; simp (disch := omega) only [jset_k, jset_j, jset_same, true_and, and_true]) (fun i a b => by simp (disch := omega) only [jset_k, jset_j, jset_same, true_and, and_true])
                                 · exact hI.2.2.1.2.2.2.2.2.2.2.2.2.1.fr (fun k j a b => by show _ = M (1 + k) j; unfold cv; simp (disch := omega) only [jset_k, jset_j, jset_same, true_and, and_true]) (fun i a b => by simp (disch := omega) only [jset_k, jset_j, jset_same, true_and, and_true])
                                 · exact hI.2.2.1.2.2.2.2.2.2.2.2.2.2.1.fr (by omega) (fun k j a b => by show _ = M (1 + k) j; unfold cv; simp (disch := omega) only [jset_k, jset_j, jset_same, true_and, and_true]) (fun i a b => by simp (disch := omega) only [jset_k, jset_j, jset_same, true_and, and_true])
                                 · exact hI.2.2.1.2.2.2.2.2.2.2.2.2.2.2.fr hI.2.1.2.2.2.2.2.2.2.2.2.2 (fun k j a b => by show _ = M (1 + k) j; unfold cv; simp (disch := omega) only [jset_k, jset_j, jset_same, true_and, and_true]) (fun i a b => by simp (disch := omega) only [jset_k, jset_j, jset_same, true_and, and_true]))))
            · skip
              refine e_bipush 89 dX11_sell_87 (by decide) rfl ?_
              refine e_iret dX11_sell_89 ?_
              refine jCt_of mt_yX12_sell (Nat.le_of_ble_eq_true rfl) (fun X2 => ?_)
              refine e_aload_n (i := 0) 1 dX12_sell_0 rfl rfl rfl ?_
              refine e_iconst 2 dX12_sell_1 rfl ?_
              refine e_put0 (j := 0) 5 fl_12_1 dX12_sell_2 at_928 rfl rfl rfl (by decide) hI.1 rfl ?_
              refine e_aload_n (i := 0) 6 dX12_sell_5 rfl rfl rfl ?_
              refine e_iload_n (i := 1) 7 dX12_sell_6 rfl rfl rfl ?_
              refine e_callV 10 mt_yX12_stateOf mv_yX12_stateOf wd_1535 (by decide) dX12_sell_7 at_928 jc_12 rfl rfl rfl (Nat.le_of_ble_eq_true rfl) (jroom (by decide)) rfl (m_stateOf (by omega) hg.2.2.2.1 (fun t a b => (hC.tk a b).2.2.2.1) (fun w7 => ?_) (fun w7 => ?_) (fun w7 => ?_) (fun w7 => ?_))
              · (exfalso; (try simp only [tkBad, tkGood] at *); omega)
              · (exfalso; (try simp only [tkBad, tkGood] at *); omega)
              · (exfalso; (try simp only [tkBad, tkGood] at *); omega)
              · dsimp only [jpush]
                first
                 | (exfalso; omega)
                 | (skip
                    refine e_if_ne 13 21 dX12_sell_10 (by decide) (by decide) rfl (fun h => absurd h (by decide)) (fun _ => ?_)
                    refine e_aload_n (i := 0) 14 dX12_sell_13 rfl rfl rfl ?_
                    refine e_iload_n (i := 2) 15 dX12_sell_14 rfl rfl rfl ?_
                    refine e_callV 18 mt_yX12_isPerson mv_yX12_isPerson wd_1506 (by decide) dX12_sell_15 at_928 jc_12 rfl rfl rfl (Nat.le_of_ble_eq_true rfl) (jroom (by decide)) rfl (m_isPerson (by omega) (fun w15 => ?_) (fun w15 => ?_))
                    · dsimp only [jpush]
                      first
                       | (exfalso; omega)
                       | (skip
                          refine e_if_ne 21 24 dX12_sell_18 (by decide) (by decide) rfl (fun _ => ?_) (fun h => absurd h (by decide))
                          refine e_iload_n (i := 1) 25 dX12_sell_24 rfl rfl rfl ?_
                          refine e_bipush 27 dX12_sell_25 (by decide) rfl ?_
                          have hg2 := w7.1
                          unfold tkGood at hg2
                          have ed : number.tdiv 100 = number / 100 := Int.tdiv_eq_ediv_of_nonneg (by omega)
                          refine e_idiv 28 dX12_sell_27 (by omega) (by decide) (by decide) rfl ?_
                          refine e_iconst 29 dX12_sell_28 rfl ?_
                          refine e_isub 30 dX12_sell_29 rfl ?_
                          rw [ed]
                          refine e_istore (lsn := [(4, _), (0, _), (1, _), (2, _), (3, _)]) 32 dX12_sell_30 (by decide) rfl rfl ?_
                          refine e_iload_n (i := 3) 33 dX12_sell_32 rfl rfl rfl ?_
                          refine e_i2l 34 dX12_sell_33 (by omega) rfl ?_
                          refine e_lconst0 35 dX12_sell_34 rfl ?_
                          refine e_ldc2 (z := (999)) 38 (ix := 198) wd_1482 (by decide) dX12_sell_35 rfl ?_
                          refine e_callS 41 mt_yX12_within ms_yX12_within wd_1390 (by decide) dX12_sell_38 rfl rfl (Nat.le_of_ble_eq_true rfl) (jroom (by decide)) rfl (m_within (by omega) (by omega) (by omega) (fun w38 => ?_) (fun w38 => ?_))
                          · dsimp only [jpush]
                            first
                             | (exfalso; omega)
                             | (skip
                                refine e_if_eq 44 59 dX12_sell_41 (by decide) (by decide) rfl (fun h => absurd h (by decide)) (fun _ => ?_)
                                refine e_aload_n (i := 0) 45 dX12_sell_44 rfl rfl rfl ?_
                                refine e_getr (j := 1) 48 fl_12_13 dX12_sell_45 at_928 rfl rfl tp_928_1 rfl ?_
                                refine e_sipush 51 dX12_sell_48 (by decide) rfl ?_
                                refine e_iload 53 dX12_sell_51 rfl rfl ?_
                                refine e_iadd 54 dX12_sell_53 rfl ?_
                                refine e_iald 55 dX12_sell_54 ar_929 (by omega) (by omega) rfl (fun r54 => ?_)
                                refine e_iload_n (i := 2) 56 dX12_sell_55 rfl rfl rfl ?_
                                refine e_icmp_ne 59 62 dX12_sell_56 (by omega) (by omega) (by decide) rfl (fun b56 => ?_) (fun b56 => ?_)
                                · first
                                   | (exfalso; omega)
                                   | (skip
                                      refine e_aload_n (i := 0) 63 dX12_sell_62 rfl rfl rfl ?_
                                      refine e_getr (j := 1) 66 fl_12_13 dX12_sell_63 at_928 rfl rfl tp_928_1 rfl ?_
                                      refine e_sipush 69 dX12_sell_66 (by decide) rfl ?_
                                      refine e_iload_n (i := 2) 70 dX12_sell_69 rfl rfl rfl ?_
                                      refine e_iadd 71 dX12_sell_70 rfl ?_
                                      refine e_iald 72 dX12_sell_71 ar_929 (by omega) (by omega) rfl (fun r71 => ?_)
                                      refine e_iconst 73 dX12_sell_72 rfl ?_
                                      refine e_iload_n (i := 3) 74 dX12_sell_73 rfl rfl rfl ?_
                                      refine e_imul 75 dX12_sell_74 rfl ?_
                                      refine e_icmp_ge 78 81 dX12_sell_75 (by omega) (by omega) (by decide) rfl (fun b75 => ?_) (fun b75 => ?_)
                                      · first
                                         | (exfalso; omega)
                                         | (skip
                                            refine e_aload_n (i := 0) 82 dX12_sell_81 rfl rfl rfl ?_
                                            refine e_getr (j := 1) 85 fl_12_13 dX12_sell_82 at_928 rfl rfl tp_928_1 rfl ?_
                                            refine e_sipush 88 dX12_sell_85 (by decide) rfl ?_
                                            refine e_iload_n (i := 2) 89 dX12_sell_88 rfl rfl rfl ?_
                                            refine e_iadd 90 dX12_sell_89 rfl ?_
                                            refine e_dup2 91 dX12_sell_90 rfl rfl rfl ?_
                                            refine e_iald 92 dX12_sell_91 ar_929 (by omega) (by omega) rfl (fun r91 => ?_)
                                            refine e_iconst 93 dX12_sell_92 rfl ?_
                                            refine e_iload_n (i := 3) 94 dX12_sell_93 rfl rfl rfl ?_
                                            refine e_imul 95 dX12_sell_94 rfl ?_
                                            refine e_isub 96 dX12_sell_95 rfl ?_
                                            refine e_iastw 97 dX12_sell_96 ar_929 (by omega) (by omega) rfl ?_
                                            refine e_aload_n (i := 0) 98 dX12_sell_97 rfl rfl rfl ?_
                                            refine e_getr (j := 1) 101 fl_12_13 dX12_sell_98 at_928 rfl rfl tp_928_1 rfl ?_
                                            refine e_sipush 104 dX12_sell_101 (by decide) rfl ?_
                                            refine e_aload_n (i := 0) 105 dX12_sell_104 rfl rfl rfl ?_
                                            refine e_getr (j := 1) 108 fl_12_13 dX12_sell_105 at_928 rfl rfl tp_928_1 rfl ?_
                                            refine e_sipush 111 dX12_sell_108 (by decide) rfl ?_
                                            refine e_iload 113 dX12_sell_111 rfl rfl ?_
                                            refine e_iadd 114 dX12_sell_113 rfl ?_
                                            refine e_iald 115 dX12_sell_114 ar_929 (by omega) (by omega) rfl (fun r114 => ?_)
                                            simp (disch := omega) only [jset_k, jset_j, jset_same, true_and, and_true] at r114 ⊢
                                            refine e_iadd 116 dX12_sell_115 rfl ?_
                                            refine e_dup2 117 dX12_sell_116 rfl rfl rfl ?_
                                            refine e_iald 118 dX12_sell_117 ar_929 (by omega) (by omega) rfl (fun r117 => ?_)
                                            simp (disch := omega) only [jset_k, jset_j, jset_same, true_and, and_true] at r117 ⊢
                                            refine e_iconst 119 dX12_sell_118 rfl ?_
                                            refine e_iload_n (i := 3) 120 dX12_sell_119 rfl rfl rfl ?_
                                            refine e_imul 121 dX12_sell_120 rfl ?_
                                            refine e_iadd 122 dX12_sell_121 rfl ?_
                                            refine e_iastw 123 dX12_sell_122 ar_929 (by omega) (by omega) rfl ?_
                                            refine e_aload_n (i := 0) 124 dX12_sell_123 rfl rfl rfl ?_
                                            refine e_getr (j := 1) 127 fl_12_13 dX12_sell_124 at_928 rfl rfl tp_928_1 rfl ?_
                                            refine e_sipush 130 dX12_sell_127 (by decide) rfl ?_
                                            refine e_iload 132 dX12_sell_130 rfl rfl ?_
                                            refine e_iadd 133 dX12_sell_132 rfl ?_
                                            refine e_iload_n (i := 2) 134 dX12_sell_133 rfl rfl rfl ?_
                                            refine e_iast 135 dX12_sell_134 ar_929 (by omega) (by omega) (by omega) rfl ?_
                                            refine e_iconst 136 dX12_sell_135 rfl ?_
                                            refine e_iret dX12_sell_136 ?_
                                            first
                                              | (exact ⟨by omega, hI⟩)
                                              | (exfalso; omega)
                                              | ((try subst hM1)
                                                 refine ⟨by omega, ?_⟩
                                                 refine hI.live ?_ ?_ ?_
                                                 · repeat (first | exact Live.rf | refine Live.c ?_ (by omega) | refine Live.r ?_ (by omega) | refine Live.s ?_ (by omega))
                                                 · refine ⟨?_, ?_, ?_, ?_, ?_, ?_, ?_, ?_, ?_, ?_, ?_⟩
                                                   · exact hI.2.1.1.fr (fun i hi => by simp (disch := omega) only [jset_k, jset_j, jset_same, true_and, and_true])
                                                   · exact hI.2.1.2.1.fr (fun i a b => by simp (disch := omega) only [jset_k, jset_j, jset_same, true_and, and_true])
                                                   · exact hI.2.1.2.2.1.fr (fun i a b => by simp (disch := omega) only [jset_k, jset_j, jset_same, true_and, and_true])
                                                   · exact hI.2.1.2.2.2.1.fr (by omega) (fun i a b => by simp (disch := omega) only [jset_k, jset_j, jset_same, true_and, and_true])
                                                   · exact hI.2.1.2.2.2.2.1.fr (by omega) (fun i a b => by simp (disch := omega) only [jset_k, jset_j, jset_same, true_and, and_true]) (fun i a b => by simp (disch := omega) only [jset_k, jset_j, jset_same, true_and, and_true])
                                                   · exact hI.2.1.2.2.2.2.2.1.fr (by omega) (fun i a b => by simp (disch := omega) only [jset_k, jset_j, jset_same, true_and, and_true]) (fun i a b => by simp (disch := omega) only [jset_k, jset_j, jset_same, true_and, and_true]) (by simp (disch := omega) only [jset_k, jset_j, jset_same, true_and, and_true]; omega)
                                                   · exact hI.2.1.2.2.2.2.2.2.1.fr (by omega) (by simp (disch := omega) only [jset_k, jset_j, jset_same, true_and, and_true]) (fun i a b => by simp (disch := omega) only [jset_k, jset_j, jset_same, true_and, and_true])
                                                   · intro t h0 h1
                                                     simp (disch := omega) only [jset_k, jset_j, jset_same, true_and, and_true] at h1
                                                     have h := hI.2.1.2.2.2.2.2.2.2.1 t h0 h1
                                                     by_cases e : t = number / 100 - 1
                                                     · subst e
                                                       simp (disch := omega) only [jset_k, jset_j, jset_same, true_and, and_true]
                                                       omega
                                                     · simp (disch := omega) only [jset_k, jset_j, jset_same, true_and, and_true]
                                                       exact h
                                                   · exact hI.2.1.2.2.2.2.2.2.2.2.1.fr (by omega) (fun i a b => by simp (disch := omega) only [jset_k, jset_j, jset_same, true_and, and_true])
                                                   · exact hI.2.1.2.2.2.2.2.2.2.2.2.1.fr (fun i a b => by simp (disch := omega) only [jset_k, jset_j, jset_same, true_and, and_true])
                                                   · exact hI.2.1.2.2.2.2.2.2.2.2.2.2.fr (fun i a b => by simp (disch := omega) only [jset_k, jset_j, jset_same, true_and, and_true])
                                                 · refine ⟨?_, ?_, ?_, ?_, ?_, ?_, ?_, ?_, ?_, ?_, ?_, ?_⟩
                                                   · exact hI.2.2.1.1.fr (fun j => by show _ = M (1 + 0) j; unfold cv; simp (disch := omega) only [jset_k, jset_j, jset_same, true_and, and_true]) (fun i hi => by simp (disch := omega) only [jset_k, jset_j, jset_same, true_and, and_true])
                                                   · exact hI.2.2.1.2.1.fr hI.2.1.2.1 (by omega) (fun k j a b => by show _ = M (1 + k) j; unfold cv; simp (disch := omega) only [jset_k, jset_j, jset_same, true_and, and_true]) (fun i a b => by simp (disch := omega) only [jset_k, jset_j, jset_same, true_and, and_true])
                                                   · exact hI.2.2.1.2.2.1.fr hI.2.1.2.2.1 (by omega) (fun k j a b => by show _ = M (1 + k) j; unfold cv; simp (disch := omega) only [jset_k, jset_j, jset_same, true_and, and_true]) (fun i a b => by simp (disch := omega) only [jset_k, jset_j, jset_same, true_and, and_true])
                                                   · exact hI.2.2.1.2.2.2.1.fr (by omega) (fun k j a b => by show _ = M (1 + k) j; unfold cv; simp (disch := omega) only [jset_k, jset_j, jset_same, true_and, and_true]) (fun i a b => by simp (disch := omega) only [jset_k, jset_j, jset_same, true_and, and_true])
                                                   · intro q h0 h1
                                                     simp (disch := omega) only [jset_k, jset_j, jset_same, true_and, and_true] at h1
                                                     simp only [cv1, Int.reduceAdd]
                                                     have h := (hC.pers h0 h1).1
                                                     by_cases e : q = person
                                                     · subst e
                                                       simp (disch := omega) only [jset_k, jset_j, jset_same, true_and, and_true]
                                                       exact ⟨by omega, by omega, by omega, congrArg w32 (by omega), by omega⟩
                                                     · by_cases e2 : q = M 929 (1461 + (number / 100 - 1))
                                                       · have e3 : M (144 + (number / 100 - 1)) 1 = q := by omega
                                                         rw [e3, ← e2]
                                                         simp (disch := omega) only [jset_k, jset_j, jset_same, true_and, and_true]
                                                         exact ⟨by omega, by omega, by omega, congrArg w32 (by omega), by omega⟩
                                                       · simp (disch := omega) only [jset_k, jset_j, jset_same, true_and, and_true]
                                                         exact h
                                                   · exact hI.2.2.1.2.2.2.2.2.1.fr (by omega) (fun k j a b => by show _ = M (1 + k) j; unfold cv; simp (disch := omega) only [jset_k, jset_j, jset_same, true_and, and_true]) (fun i a b => by simp (disch := omega) only [jset_k, jset_j, jset_same, true_and, and_true]) (fun i a b => by simp (disch := omega) only [jset_k, jset_j, jset_same, true_and, and_true])
                                                   · intro t h0 h1
                                                     simp (disch := omega) only [jset_k, jset_j, jset_same, true_and, and_true] at h1
                                                     simp only [cv1, Int.reduceAdd]
                                                     have h := (hC.tk h0 h1).1
                                                     by_cases e : t = number / 100 - 1
                                                     · subst e
                                                       simp (disch := omega) only [jset_k, jset_j, jset_same, true_and, and_true]
                                                       first | omega | exact ⟨by omega, rfl, by omega, by omega⟩
                                                     · simp (disch := omega) only [jset_k, jset_j, jset_same, true_and, and_true]
                                                       exact h
                                                   · exact hI.2.2.1.2.2.2.2.2.2.2.1.fr (by omega) (fun k j a b => by show _ = M (1 + k) j; unfold cv; simp (disch := omega) only [jset_k, jset_j, jset_same, true_and, and_true]) (fun i a b => by simp (disch := omega) only [jset_k, jset_j, jset_same, true_and, and_true])
                                                   · exact hI.2.2.1.2.2.2.2.2.2.2.2.1.fr (fun k j a b => by show _ = M (1 + k) j; unfold cv; simp (disch := omega) only [jset_k, jset_j, jset_same, true_and, and_true]) (fun i a b => by simp (disch := omega) only [jset_k, jset_j, jset_same, true_and, and_true])
                                                   · exact hI.2.2.1.2.2.2.2.2.2.2.2.2.1.fr (fun k j a b => by show _ = M (1 + k) j; unfold cv; simp (disch := omega) only [jset_k, jset_j, jset_same, true_and, and_true]) (fun i a b => by simp (disch := omega) only [jset_k, jset_j, jset_same, true_and, and_true])
                                                   · exact hI.2.2.1.2.2.2.2.2.2.2.2.2.2.1.fr (by omega) (fun k j a b => by show _ = M (1 + k) j; unfold cv; simp (disch := omega) only [jset_k, jset_j, jset_same, true_and, and_true]) (fun i a b => by simp (disch := omega) only [jset_k, jset_j, jset_same, true_and, and_true])
                                                   · exact hI.2.2.1.2.2.2.2.2.2.2.2.2.2.2.fr hI.2.1.2.2.2.2.2.2.2.2.2.2 (fun k j a b => by show _ = M (1 + k) j; unfold cv; simp (disch := omega) only [jset_k, jset_j, jset_same, true_and, and_true]) (fun i a b => by simp (disch := omega) only [jset_k, jset_j, jset_same, true_and, and_true])))
                                      · first
                                         | (exfalso; omega)
                                         | (skip
                                            refine e_bipush 80 dX12_sell_78 (by decide) rfl ?_
                                            refine e_iret dX12_sell_80 ?_
                                            first
                                              | (exact ⟨by omega, hI⟩)
                                              | (exfalso; omega)))
                                · first
                                   | (exfalso; omega)
                                   | (skip
                                      refine e_bipush 61 dX12_sell_59 (by decide) rfl ?_
                                      refine e_iret dX12_sell_61 ?_
                                      first
                                        | (exact ⟨by omega, hI⟩)
                                        | (exfalso; omega)))
                          · dsimp only [jpush]
                            first
                             | (exfalso; omega)
                             | (skip
                                refine e_if_eq 44 59 dX12_sell_41 (by decide) (by decide) rfl (fun _ => ?_) (fun h => absurd h (by decide))
                                refine e_bipush 61 dX12_sell_59 (by decide) rfl ?_
                                refine e_iret dX12_sell_61 ?_
                                first
                                  | (exact ⟨by omega, hI⟩)
                                  | (exfalso; omega)))
                    · dsimp only [jpush]
                      first
                       | (exfalso; omega)
                       | (skip
                          refine e_if_ne 21 24 dX12_sell_18 (by decide) (by decide) rfl (fun h => absurd h (by decide)) (fun _ => ?_)
                          refine e_bipush 23 dX12_sell_21 (by decide) rfl ?_
                          refine e_iret dX12_sell_23 ?_
                          first
                            | (exact ⟨by omega, hI⟩)
                            | (exfalso; omega)))
          · skip
            refine e_bipush 64 dX11_sell_62 (by decide) rfl ?_
            refine e_iret dX11_sell_64 ?_
            refine jCt_of mt_yX12_sell (Nat.le_of_ble_eq_true rfl) (fun X2 => ?_)
            refine e_aload_n (i := 0) 1 dX12_sell_0 rfl rfl rfl ?_
            refine e_iconst 2 dX12_sell_1 rfl ?_
            refine e_put0 (j := 0) 5 fl_12_1 dX12_sell_2 at_928 rfl rfl rfl (by decide) hI.1 rfl ?_
            refine e_aload_n (i := 0) 6 dX12_sell_5 rfl rfl rfl ?_
            refine e_iload_n (i := 1) 7 dX12_sell_6 rfl rfl rfl ?_
            refine e_callV 10 mt_yX12_stateOf mv_yX12_stateOf wd_1535 (by decide) dX12_sell_7 at_928 jc_12 rfl rfl rfl (Nat.le_of_ble_eq_true rfl) (jroom (by decide)) rfl (m_stateOf (by omega) hg.2.2.2.1 (fun t a b => (hC.tk a b).2.2.2.1) (fun w7 => ?_) (fun w7 => ?_) (fun w7 => ?_) (fun w7 => ?_))
            · (exfalso; (try simp only [tkBad, tkGood] at *); omega)
            · (exfalso; (try simp only [tkBad, tkGood] at *); omega)
            · (exfalso; (try simp only [tkBad, tkGood] at *); omega)
            · dsimp only [jpush]
              first
               | (exfalso; omega)
               | (skip
                  refine e_if_ne 13 21 dX12_sell_10 (by decide) (by decide) rfl (fun h => absurd h (by decide)) (fun _ => ?_)
                  refine e_aload_n (i := 0) 14 dX12_sell_13 rfl rfl rfl ?_
                  refine e_iload_n (i := 2) 15 dX12_sell_14 rfl rfl rfl ?_
                  refine e_callV 18 mt_yX12_isPerson mv_yX12_isPerson wd_1506 (by decide) dX12_sell_15 at_928 jc_12 rfl rfl rfl (Nat.le_of_ble_eq_true rfl) (jroom (by decide)) rfl (m_isPerson (by omega) (fun w15 => ?_) (fun w15 => ?_))
                  · dsimp only [jpush]
                    first
                     | (exfalso; omega)
                     | (skip
                        refine e_if_ne 21 24 dX12_sell_18 (by decide) (by decide) rfl (fun _ => ?_) (fun h => absurd h (by decide))
                        refine e_iload_n (i := 1) 25 dX12_sell_24 rfl rfl rfl ?_
                        refine e_bipush 27 dX12_sell_25 (by decide) rfl ?_
                        have hg2 := w7.1
                        unfold tkGood at hg2
                        have ed : number.tdiv 100 = number / 100 := Int.tdiv_eq_ediv_of_nonneg (by omega)
                        refine e_idiv 28 dX12_sell_27 (by omega) (by decide) (by decide) rfl ?_
                        refine e_iconst 29 dX12_sell_28 rfl ?_
                        refine e_isub 30 dX12_sell_29 rfl ?_
                        rw [ed]
                        refine e_istore (lsn := [(4, _), (0, _), (1, _), (2, _), (3, _)]) 32 dX12_sell_30 (by decide) rfl rfl ?_
                        refine e_iload_n (i := 3) 33 dX12_sell_32 rfl rfl rfl ?_
                        refine e_i2l 34 dX12_sell_33 (by omega) rfl ?_
                        refine e_lconst0 35 dX12_sell_34 rfl ?_
                        refine e_ldc2 (z := (999)) 38 (ix := 198) wd_1482 (by decide) dX12_sell_35 rfl ?_
                        refine e_callS 41 mt_yX12_within ms_yX12_within wd_1390 (by decide) dX12_sell_38 rfl rfl (Nat.le_of_ble_eq_true rfl) (jroom (by decide)) rfl (m_within (by omega) (by omega) (by omega) (fun w38 => ?_) (fun w38 => ?_))
                        · dsimp only [jpush]
                          first
                           | (exfalso; omega)
                           | (skip
                              refine e_if_eq 44 59 dX12_sell_41 (by decide) (by decide) rfl (fun h => absurd h (by decide)) (fun _ => ?_)
                              refine e_aload_n (i := 0) 45 dX12_sell_44 rfl rfl rfl ?_
                              refine e_getr (j := 1) 48 fl_12_13 dX12_sell_45 at_928 rfl rfl tp_928_1 rfl ?_
                              refine e_sipush 51 dX12_sell_48 (by decide) rfl ?_
                              refine e_iload 53 dX12_sell_51 rfl rfl ?_
                              refine e_iadd 54 dX12_sell_53 rfl ?_
                              refine e_iald 55 dX12_sell_54 ar_929 (by omega) (by omega) rfl (fun r54 => ?_)
                              refine e_iload_n (i := 2) 56 dX12_sell_55 rfl rfl rfl ?_
                              refine e_icmp_ne 59 62 dX12_sell_56 (by omega) (by omega) (by decide) rfl (fun b56 => ?_) (fun b56 => ?_)
                              · first
                                 | (exfalso; omega)
                                 | (skip
                                    refine e_aload_n (i := 0) 63 dX12_sell_62 rfl rfl rfl ?_
                                    refine e_getr (j := 1) 66 fl_12_13 dX12_sell_63 at_928 rfl rfl tp_928_1 rfl ?_
                                    refine e_sipush 69 dX12_sell_66 (by decide) rfl ?_
                                    refine e_iload_n (i := 2) 70 dX12_sell_69 rfl rfl rfl ?_
                                    refine e_iadd 71 dX12_sell_70 rfl ?_
                                    refine e_iald 72 dX12_sell_71 ar_929 (by omega) (by omega) rfl (fun r71 => ?_)
                                    refine e_iconst 73 dX12_sell_72 rfl ?_
                                    refine e_iload_n (i := 3) 74 dX12_sell_73 rfl rfl rfl ?_
                                    refine e_imul 75 dX12_sell_74 rfl ?_
                                    refine e_icmp_ge 78 81 dX12_sell_75 (by omega) (by omega) (by decide) rfl (fun b75 => ?_) (fun b75 => ?_)
                                    · first
                                       | (exfalso; omega)
                                       | (skip
                                          refine e_aload_n (i := 0) 82 dX12_sell_81 rfl rfl rfl ?_
                                          refine e_getr (j := 1) 85 fl_12_13 dX12_sell_82 at_928 rfl rfl tp_928_1 rfl ?_
                                          refine e_sipush 88 dX12_sell_85 (by decide) rfl ?_
                                          refine e_iload_n (i := 2) 89 dX12_sell_88 rfl rfl rfl ?_
                                          refine e_iadd 90 dX12_sell_89 rfl ?_
                                          refine e_dup2 91 dX12_sell_90 rfl rfl rfl ?_
                                          refine e_iald 92 dX12_sell_91 ar_929 (by omega) (by omega) rfl (fun r91 => ?_)
                                          refine e_iconst 93 dX12_sell_92 rfl ?_
                                          refine e_iload_n (i := 3) 94 dX12_sell_93 rfl rfl rfl ?_
                                          refine e_imul 95 dX12_sell_94 rfl ?_
                                          refine e_isub 96 dX12_sell_95 rfl ?_
                                          refine e_iastw 97 dX12_sell_96 ar_929 (by omega) (by omega) rfl ?_
                                          refine e_aload_n (i := 0) 98 dX12_sell_97 rfl rfl rfl ?_
                                          refine e_getr (j := 1) 101 fl_12_13 dX12_sell_98 at_928 rfl rfl tp_928_1 rfl ?_
                                          refine e_sipush 104 dX12_sell_101 (by decide) rfl ?_
                                          refine e_aload_n (i := 0) 105 dX12_sell_104 rfl rfl rfl ?_
                                          refine e_getr (j := 1) 108 fl_12_13 dX12_sell_105 at_928 rfl rfl tp_928_1 rfl ?_
                                          refine e_sipush 111 dX12_sell_108 (by decide) rfl ?_
                                          refine e_iload 113 dX12_sell_111 rfl rfl ?_
                                          refine e_iadd 114 dX12_sell_113 rfl ?_
                                          refine e_iald 115 dX12_sell_114 ar_929 (by omega) (by omega) rfl (fun r114 => ?_)
                                          simp (disch := omega) only [jset_k, jset_j, jset_same, true_and, and_true] at r114 ⊢
                                          refine e_iadd 116 dX12_sell_115 rfl ?_
                                          refine e_dup2 117 dX12_sell_116 rfl rfl rfl ?_
                                          refine e_iald 118 dX12_sell_117 ar_929 (by omega) (by omega) rfl (fun r117 => ?_)
                                          simp (disch := omega) only [jset_k, jset_j, jset_same, true_and, and_true] at r117 ⊢
                                          refine e_iconst 119 dX12_sell_118 rfl ?_
                                          refine e_iload_n (i := 3) 120 dX12_sell_119 rfl rfl rfl ?_
                                          refine e_imul 121 dX12_sell_120 rfl ?_
                                          refine e_iadd 122 dX12_sell_121 rfl ?_
                                          refine e_iastw 123 dX12_sell_122 ar_929 (by omega) (by omega) rfl ?_
                                          refine e_aload_n (i := 0) 124 dX12_sell_123 rfl rfl rfl ?_
                                          refine e_getr (j := 1) 127 fl_12_13 dX12_sell_124 at_928 rfl rfl tp_928_1 rfl ?_
                                          refine e_sipush 130 dX12_sell_127 (by decide) rfl ?_
                                          refine e_iload 132 dX12_sell_130 rfl rfl ?_
                                          refine e_iadd 133 dX12_sell_132 rfl ?_
                                          refine e_iload_n (i := 2) 134 dX12_sell_133 rfl rfl rfl ?_
                                          refine e_iast 135 dX12_sell_134 ar_929 (by omega) (by omega) (by omega) rfl ?_
                                          refine e_iconst 136 dX12_sell_135 rfl ?_
                                          refine e_iret dX12_sell_136 ?_
                                          first
                                            | (exact ⟨by omega, hI⟩)
                                            | (exfalso; omega)
                                            | ((try subst hM1)
                                               refine ⟨by omega, ?_⟩
                                               refine hI.live ?_ ?_ ?_
                                               · repeat (first | exact Live.rf | refine Live.c ?_ (by omega) | refine Live.r ?_ (by omega) | refine Live.s ?_ (by omega))
                                               · refine ⟨?_, ?_, ?_, ?_, ?_, ?_, ?_, ?_, ?_, ?_, ?_⟩
                                                 · exact hI.2.1.1.fr (fun i hi => by simp (disch := omega) only [jset_k, jset_j, jset_same, true_and, and_true])
                                                 · exact hI.2.1.2.1.fr (fun i a b => by simp (disch := omega) only [jset_k, jset_j, jset_same, true_and, and_true])
                                                 · exact hI.2.1.2.2.1.fr (fun i a b => by simp (disch := omega) only [jset_k, jset_j, jset_same, true_and, and_true])
                                                 · exact hI.2.1.2.2.2.1.fr (by omega) (fun i a b => by simp (disch := omega) only [jset_k, jset_j, jset_same, true_and, and_true])
                                                 · exact hI.2.1.2.2.2.2.1.fr (by omega) (fun i a b => by simp (disch := omega) only [jset_k, jset_j, jset_same, true_and, and_true]) (fun i a b => by simp (disch := omega) only [jset_k, jset_j, jset_same, true_and, and_true])
                                                 · exact hI.2.1.2.2.2.2.2.1.fr (by omega) (fun i a b => by simp (disch := omega) only [jset_k, jset_j, jset_same, true_and, and_true]) (fun i a b => by simp (disch := omega) only [jset_k, jset_j, jset_same, true_and, and_true]) (by simp (disch := omega) only [jset_k, jset_j, jset_same, true_and, and_true]; omega)
                                                 · exact hI.2.1.2.2.2.2.2.2.1.fr (by omega) (by simp (disch := omega) only [jset_k, jset_j, jset_same, true_and, and_true]) (fun i a b => by simp (disch := omega) only [jset_k, jset_j, jset_same, true_and, and_true])
                                                 · intro t h0 h1
                                                   simp (disch := omega) only [jset_k, jset_j, jset_same, true_and, and_true] at h1
                                                   have h := hI.2.1.2.2.2.2.2.2.2.1 t h0 h1
                                                   by_cases e : t = number / 100 - 1
                                                   · subst e
                                                     simp (disch := omega) only [jset_k, jset_j, jset_same, true_and, and_true]
                                                     omega
                                                   · simp (disch := omega) only [jset_k, jset_j, jset_same, true_and, and_true]
                                                     exact h
                                                 · exact hI.2.1.2.2.2.2.2.2.2.2.1.fr (by omega) (fun i a b => by simp (disch := omega) only [jset_k, jset_j, jset_same, true_and, and_true])
                                                 · exact hI.2.1.2.2.2.2.2.2.2.2.2.1.fr (fun i a b => by simp (disch := omega) only [jset_k, jset_j, jset_same, true_and, and_true])
                                                 · exact hI.2.1.2.2.2.2.2.2.2.2.2.2.fr (fun i a b => by simp (disch := omega) only [jset_k, jset_j, jset_same, true_and, and_true])
                                               · refine ⟨?_, ?_, ?_, ?_, ?_, ?_, ?_, ?_, ?_, ?_, ?_, ?_⟩
                                                 · exact hI.2.2.1.1.fr (fun j => by show _ = M (1 + 0) j; unfold cv; simp (disch := omega) only [jset_k, jset_j, jset_same, true_and, and_true]) (fun i hi => by simp (disch := omega) only [jset_k, jset_j, jset_same, true_and, and_true])
                                                 · exact hI.2.2.1.2.1.fr hI.2.1.2.1 (by omega) (fun k j a b => by show _ = M (1 + k) j; unfold cv; simp (disch := omega) only [jset_k, jset_j, jset_same, true_and, and_true]) (fun i a b => by simp (disch := omega) only [jset_k, jset_j, jset_same, true_and, and_true])
                                                 · exact hI.2.2.1.2.2.1.fr hI.2.1.2.2.1 (by omega) (fun k j a b => by show _ = M (1 + k) j; unfold cv; simp (disch := omega) only [jset_k, jset_j, jset_same, true_and, and_true]) (fun i a b => by simp (disch := omega) only [jset_k, jset_j, jset_same, true_and, and_true])
                                                 · exact hI.2.2.1.2.2.2.1.fr (by omega) (fun k j a b => by show _ = M (1 + k) j; unfold cv; simp (disch := omega) only [jset_k, jset_j, jset_same, true_and, and_true]) (fun i a b => by simp (disch := omega) only [jset_k, jset_j, jset_same, true_and, and_true])
                                                 · intro q h0 h1
                                                   simp (disch := omega) only [jset_k, jset_j, jset_same, true_and, and_true] at h1
                                                   simp only [cv1, Int.reduceAdd]
                                                   have h := (hC.pers h0 h1).1
                                                   by_cases e : q = person
                                                   · subst e
                                                     simp (disch := omega) only [jset_k, jset_j, jset_same, true_and, and_true]
                                                     exact ⟨by omega, by omega, by omega, congrArg w32 (by omega), by omega⟩
                                                   · by_cases e2 : q = M 929 (1461 + (number / 100 - 1))
                                                     · have e3 : M (144 + (number / 100 - 1)) 1 = q := by omega
                                                       rw [e3, ← e2]
                                                       simp (disch := omega) only [jset_k, jset_j, jset_same, true_and, and_true]
                                                       exact ⟨by omega, by omega, by omega, congrArg w32 (by omega), by omega⟩
                                                     · simp (disch := omega) only [jset_k, jset_j, jset_same, true_and, and_true]
                                                       exact h
                                                 · exact hI.2.2.1.2.2.2.2.2.1.fr (by omega) (fun k j a b => by show _ = M (1 + k) j; unfold cv; simp (disch := omega) only [jset_k, jset_j, jset_same, true_and, and_true]) (fun i a b => by simp (disch := omega) only [jset_k, jset_j, jset_same, true_and, and_true]) (fun i a b => by simp (disch := omega) only [jset_k, jset_j, jset_same, true_and, and_true])
                                                 · intro t h0 h1
                                                   simp (disch := omega) only [jset_k, jset_j, jset_same, true_and, and_true] at h1
                                                   simp only [cv1, Int.reduceAdd]
                                                   have h := (hC.tk h0 h1).1
                                                   by_cases e : t = number / 100 - 1
                                                   · subst e
                                                     simp (disch := omega) only [jset_k, jset_j, jset_same, true_and, and_true]
                                                     first | omega | exact ⟨by omega, rfl, by omega, by omega⟩
                                                   · simp (disch := omega) only [jset_k, jset_j, jset_same, true_and, and_true]
                                                     exact h
                                                 · exact hI.2.2.1.2.2.2.2.2.2.2.1.fr (by omega) (fun k j a b => by show _ = M (1 + k) j; unfold cv; simp (disch := omega) only [jset_k, jset_j, jset_same, true_and, and_true]) (fun i a b => by simp (disch := omega) only [jset_k, jset_j, jset_same, true_and, and_true])
                                                 · exact hI.2.2.1.2.2.2.2.2.2.2.2.1.fr (fun k j a b => by show _ = M (1 + k) j; unfold cv; simp (disch := omega) only [jset_k, jset_j, jset_same, true_and, and_true]) (fun i a b => by simp (disch := omega) only [jset_k, jset_j, jset_same, true_and, and_true])
                                                 · exact hI.2.2.1.2.2.2.2.2.2.2.2.2.1.fr (fun k j a b => by show _ = M (1 + k) j; unfold cv; simp (disch := omega) only [jset_k, jset_j, jset_same, true_and, and_true]) (fun i a b => by simp (disch := omega) only [jset_k, jset_j, jset_same, true_and, and_true])
                                                 · exact hI.2.2.1.2.2.2.2.2.2.2.2.2.2.1.fr (by omega) (fun k j a b => by show _ = M (1 + k) j; unfold cv; simp (disch := omega) only [jset_k, jset_j, jset_same, true_and, and_true]) (fun i a b => by simp (disch := omega) only [jset_k, jset_j, jset_same, true_and, and_true])
                                                 · exact hI.2.2.1.2.2.2.2.2.2.2.2.2.2.2.fr hI.2.1.2.2.2.2.2.2.2.2.2.2 (fun k j a b => by show _ = M (1 + k) j; unfold cv; simp (disch := omega) only [jset_k, jset_j, jset_same, true_and, and_true]) (fun i a b => by simp (disch := omega) only [jset_k, jset_j, jset_same, true_and, and_true])))
                                    · first
                                       | (exfalso; omega)
                                       | (skip
                                          refine e_bipush 80 dX12_sell_78 (by decide) rfl ?_
                                          refine e_iret dX12_sell_80 ?_
                                          first
                                            | (exact ⟨by omega, hI⟩)
                                            | (exfalso; omega)))
                              · first
                                 | (exfalso; omega)
                                 | (skip
                                    refine e_bipush 61 dX12_sell_59 (by decide) rfl ?_
                                    refine e_iret dX12_sell_61 ?_
                                    first
                                      | (exact ⟨by omega, hI⟩)
                                      | (exfalso; omega)))
                        · dsimp only [jpush]
                          first
                           | (exfalso; omega)
                           | (skip
                              refine e_if_eq 44 59 dX12_sell_41 (by decide) (by decide) rfl (fun _ => ?_) (fun h => absurd h (by decide))
                              refine e_bipush 61 dX12_sell_59 (by decide) rfl ?_
                              refine e_iret dX12_sell_61 ?_
                              first
                                | (exact ⟨by omega, hI⟩)
                                | (exfalso; omega)))
                  · dsimp only [jpush]
                    first
                     | (exfalso; omega)
                     | (skip
                        refine e_if_ne 21 24 dX12_sell_18 (by decide) (by decide) rfl (fun h => absurd h (by decide)) (fun _ => ?_)
                        refine e_bipush 23 dX12_sell_21 (by decide) rfl ?_
                        refine e_iret dX12_sell_23 ?_
                        first
                          | (exact ⟨by omega, hI⟩)
                          | (exfalso; omega)))
        · dsimp only [jpush]
          refine e_if_eq 53 62 dX11_sell_50 (by decide) (by decide) rfl (fun _ => ?_) (fun h => absurd h (by decide))
          refine e_bipush 64 dX11_sell_62 (by decide) rfl ?_
          refine e_iret dX11_sell_64 ?_
          refine jCt_of mt_yX12_sell (Nat.le_of_ble_eq_true rfl) (fun X2 => ?_)
          refine e_aload_n (i := 0) 1 dX12_sell_0 rfl rfl rfl ?_
          refine e_iconst 2 dX12_sell_1 rfl ?_
          refine e_put0 (j := 0) 5 fl_12_1 dX12_sell_2 at_928 rfl rfl rfl (by decide) hI.1 rfl ?_
          refine e_aload_n (i := 0) 6 dX12_sell_5 rfl rfl rfl ?_
          refine e_iload_n (i := 1) 7 dX12_sell_6 rfl rfl rfl ?_
          refine e_callV 10 mt_yX12_stateOf mv_yX12_stateOf wd_1535 (by decide) dX12_sell_7 at_928 jc_12 rfl rfl rfl (Nat.le_of_ble_eq_true rfl) (jroom (by decide)) rfl (m_stateOf (by omega) hg.2.2.2.1 (fun t a b => (hC.tk a b).2.2.2.1) (fun w7 => ?_) (fun w7 => ?_) (fun w7 => ?_) (fun w7 => ?_))
          · (exfalso; (try simp only [tkBad, tkGood] at *); omega)
          · (exfalso; (try simp only [tkBad, tkGood] at *); omega)
          · (exfalso; (try simp only [tkBad, tkGood] at *); omega)
          · dsimp only [jpush]
            first
             | (exfalso; omega)
             | (skip
                refine e_if_ne 13 21 dX12_sell_10 (by decide) (by decide) rfl (fun h => absurd h (by decide)) (fun _ => ?_)
                refine e_aload_n (i := 0) 14 dX12_sell_13 rfl rfl rfl ?_
                refine e_iload_n (i := 2) 15 dX12_sell_14 rfl rfl rfl ?_
                refine e_callV 18 mt_yX12_isPerson mv_yX12_isPerson wd_1506 (by decide) dX12_sell_15 at_928 jc_12 rfl rfl rfl (Nat.le_of_ble_eq_true rfl) (jroom (by decide)) rfl (m_isPerson (by omega) (fun w15 => ?_) (fun w15 => ?_))
                · dsimp only [jpush]
                  first
                   | (exfalso; omega)
                   | (skip
                      refine e_if_ne 21 24 dX12_sell_18 (by decide) (by decide) rfl (fun _ => ?_) (fun h => absurd h (by decide))
                      refine e_iload_n (i := 1) 25 dX12_sell_24 rfl rfl rfl ?_
                      refine e_bipush 27 dX12_sell_25 (by decide) rfl ?_
                      have hg2 := w7.1
                      unfold tkGood at hg2
                      have ed : number.tdiv 100 = number / 100 := Int.tdiv_eq_ediv_of_nonneg (by omega)
                      refine e_idiv 28 dX12_sell_27 (by omega) (by decide) (by decide) rfl ?_
                      refine e_iconst 29 dX12_sell_28 rfl ?_
                      refine e_isub 30 dX12_sell_29 rfl ?_
                      rw [ed]
                      refine e_istore (lsn := [(4, _), (0, _), (1, _), (2, _), (3, _)]) 32 dX12_sell_30 (by decide) rfl rfl ?_
                      refine e_iload_n (i := 3) 33 dX12_sell_32 rfl rfl rfl ?_
                      refine e_i2l 34 dX12_sell_33 (by omega) rfl ?_
                      refine e_lconst0 35 dX12_sell_34 rfl ?_
                      refine e_ldc2 (z := (999)) 38 (ix := 198) wd_1482 (by decide) dX12_sell_35 rfl ?_
                      refine e_callS 41 mt_yX12_within ms_yX12_within wd_1390 (by decide) dX12_sell_38 rfl rfl (Nat.le_of_ble_eq_true rfl) (jroom (by decide)) rfl (m_within (by omega) (by omega) (by omega) (fun w38 => ?_) (fun w38 => ?_))
                      · dsimp only [jpush]
                        first
                         | (exfalso; omega)
                         | (skip
                            refine e_if_eq 44 59 dX12_sell_41 (by decide) (by decide) rfl (fun h => absurd h (by decide)) (fun _ => ?_)
                            refine e_aload_n (i := 0) 45 dX12_sell_44 rfl rfl rfl ?_
                            refine e_getr (j := 1) 48 fl_12_13 dX12_sell_45 at_928 rfl rfl tp_928_1 rfl ?_
                            refine e_sipush 51 dX12_sell_48 (by decide) rfl ?_
                            refine e_iload 53 dX12_sell_51 rfl rfl ?_
                            refine e_iadd 54 dX12_sell_53 rfl ?_
                            refine e_iald 55 dX12_sell_54 ar_929 (by omega) (by omega) rfl (fun r54 => ?_)
                            refine e_iload_n (i := 2) 56 dX12_sell_55 rfl rfl rfl ?_
                            refine e_icmp_ne 59 62 dX12_sell_56 (by omega) (by omega) (by decide) rfl (fun b56 => ?_) (fun b56 => ?_)
                            · first
                               | (exfalso; omega)
                               | (skip
                                  refine e_aload_n (i := 0) 63 dX12_sell_62 rfl rfl rfl ?_
                                  refine e_getr (j := 1) 66 fl_12_13 dX12_sell_63 at_928 rfl rfl tp_928_1 rfl ?_
                                  refine e_sipush 69 dX12_sell_66 (by decide) rfl ?_
                                  refine e_iload_n (i := 2) 70 dX12_sell_69 rfl rfl rfl ?_
                                  refine e_iadd 71 dX12_sell_70 rfl ?_
                                  refine e_iald 72 dX12_sell_71 ar_929 (by omega) (by omega) rfl (fun r71 => ?_)
                                  refine e_iconst 73 dX12_sell_72 rfl ?_
                                  refine e_iload_n (i := 3) 74 dX12_sell_73 rfl rfl rfl ?_
                                  refine e_imul 75 dX12_sell_74 rfl ?_
                                  refine e_icmp_ge 78 81 dX12_sell_75 (by omega) (by omega) (by decide) rfl (fun b75 => ?_) (fun b75 => ?_)
                                  · first
                                     | (exfalso; omega)
                                     | (skip
                                        refine e_aload_n (i := 0) 82 dX12_sell_81 rfl rfl rfl ?_
                                        refine e_getr (j := 1) 85 fl_12_13 dX12_sell_82 at_928 rfl rfl tp_928_1 rfl ?_
                                        refine e_sipush 88 dX12_sell_85 (by decide) rfl ?_
                                        refine e_iload_n (i := 2) 89 dX12_sell_88 rfl rfl rfl ?_
                                        refine e_iadd 90 dX12_sell_89 rfl ?_
                                        refine e_dup2 91 dX12_sell_90 rfl rfl rfl ?_
                                        refine e_iald 92 dX12_sell_91 ar_929 (by omega) (by omega) rfl (fun r91 => ?_)
                                        refine e_iconst 93 dX12_sell_92 rfl ?_
                                        refine e_iload_n (i := 3) 94 dX12_sell_93 rfl rfl rfl ?_
                                        refine e_imul 95 dX12_sell_94 rfl ?_
                                        refine e_isub 96 dX12_sell_95 rfl ?_
                                        refine e_iastw 97 dX12_sell_96 ar_929 (by omega) (by omega) rfl ?_
                                        refine e_aload_n (i := 0) 98 dX12_sell_97 rfl rfl rfl ?_
                                        refine e_getr (j := 1) 101 fl_12_13 dX12_sell_98 at_928 rfl rfl tp_928_1 rfl ?_
                                        refine e_sipush 104 dX12_sell_101 (by decide) rfl ?_
                                        refine e_aload_n (i := 0) 105 dX12_sell_104 rfl rfl rfl ?_
                                        refine e_getr (j := 1) 108 fl_12_13 dX12_sell_105 at_928 rfl rfl tp_928_1 rfl ?_
                                        refine e_sipush 111 dX12_sell_108 (by decide) rfl ?_
                                        refine e_iload 113 dX12_sell_111 rfl rfl ?_
                                        refine e_iadd 114 dX12_sell_113 rfl ?_
                                        refine e_iald 115 dX12_sell_114 ar_929 (by omega) (by omega) rfl (fun r114 => ?_)
                                        simp (disch := omega) only [jset_k, jset_j, jset_same, true_and, and_true] at r114 ⊢
                                        refine e_iadd 116 dX12_sell_115 rfl ?_
                                        refine e_dup2 117 dX12_sell_116 rfl rfl rfl ?_
                                        refine e_iald 118 dX12_sell_117 ar_929 (by omega) (by omega) rfl (fun r117 => ?_)
                                        simp (disch := omega) only [jset_k, jset_j, jset_same, true_and, and_true] at r117 ⊢
                                        refine e_iconst 119 dX12_sell_118 rfl ?_
                                        refine e_iload_n (i := 3) 120 dX12_sell_119 rfl rfl rfl ?_
                                        refine e_imul 121 dX12_sell_120 rfl ?_
                                        refine e_iadd 122 dX12_sell_121 rfl ?_
                                        refine e_iastw 123 dX12_sell_122 ar_929 (by omega) (by omega) rfl ?_
                                        refine e_aload_n (i := 0) 124 dX12_sell_123 rfl rfl rfl ?_
                                        refine e_getr (j := 1) 127 fl_12_13 dX12_sell_124 at_928 rfl rfl tp_928_1 rfl ?_
                                        refine e_sipush 130 dX12_sell_127 (by decide) rfl ?_
                                        refine e_iload 132 dX12_sell_130 rfl rfl ?_
                                        refine e_iadd 133 dX12_sell_132 rfl ?_
                                        refine e_iload_n (i := 2) 134 dX12_sell_133 rfl rfl rfl ?_
                                        refine e_iast 135 dX12_sell_134 ar_929 (by omega) (by omega) (by omega) rfl ?_
                                        refine e_iconst 136 dX12_sell_135 rfl ?_
                                        refine e_iret dX12_sell_136 ?_
                                        first
                                          | (exact ⟨by omega, hI⟩)
                                          | (exfalso; omega)
                                          | ((try subst hM1)
                                             refine ⟨by omega, ?_⟩
                                             refine hI.live ?_ ?_ ?_
                                             · repeat (first | exact Live.rf | refine Live.c ?_ (by omega) | refine Live.r ?_ (by omega) | refine Live.s ?_ (by omega))
                                             · refine ⟨?_, ?_, ?_, ?_, ?_, ?_, ?_, ?_, ?_, ?_, ?_⟩
                                               · exact hI.2.1.1.fr (fun i hi => by simp (disch := omega) only [jset_k, jset_j, jset_same, true_and, and_true])
                                               · exact hI.2.1.2.1.fr (fun i a b => by simp (disch := omega) only [jset_k, jset_j, jset_same, true_and, and_true])
                                               · exact hI.2.1.2.2.1.fr (fun i a b => by simp (disch := omega) only [jset_k, jset_j, jset_same, true_and, and_true])
                                               · exact hI.2.1.2.2.2.1.fr (by omega) (fun i a b => by simp (disch := omega) only [jset_k, jset_j, jset_same, true_and, and_true])
                                               · exact hI.2.1.2.2.2.2.1.fr (by omega) (fun i a b => by simp (disch := omega) only [jset_k, jset_j, jset_same, true_and, and_true]) (fun i a b => by simp (disch := omega) only [jset_k, jset_j, jset_same, true_and, and_true])
                                               · exact hI.2.1.2.2.2.2.2.1.fr (by omega) (fun i a b => by simp (disch := omega) only [jset_k, jset_j, jset_same, true_and, and_true]) (fun i a b => by simp (disch := omega) only [jset_k, jset_j, jset_same, true_and, and_true]) (by simp (disch := omega) only [jset_k, jset_j, jset_same, true_and, and_true]; omega)
                                               · exact hI.2.1.2.2.2.2.2.2.1.fr (by omega) (by simp (disch := omega) only [jset_k, jset_j, jset_same, true_and, and_true]) (fun i a b => by simp (disch := omega) only [jset_k, jset_j, jset_same, true_and, and_true])
                                               · intro t h0 h1
                                                 simp (disch := omega) only [jset_k, jset_j, jset_same, true_and, and_true] at h1
                                                 have h := hI.2.1.2.2.2.2.2.2.2.1 t h0 h1
                                                 by_cases e : t = number / 100 - 1
                                                 · subst e
                                                   simp (disch := omega) only [jset_k, jset_j, jset_same, true_and, and_true]
                                                   omega
                                                 · simp (disch := omega) only [jset_k, jset_j, jset_same, true_and, and_true]
                                                   exact h
                                               · exact hI.2.1.2.2.2.2.2.2.2.2.1.fr (by omega) (fun i a b => by simp (disch := omega) only [jset_k, jset_j, jset_same, true_and, and_true])
                                               · exact hI.2.1.2.2.2.2.2.2.2.2.2.1.fr (fun i a b => by simp (disch := omega) only [jset_k, jset_j, jset_same, true_and, and_true])
                                               · exact hI.2.1.2.2.2.2.2.2.2.2.2.2.fr (fun i a b => by simp (disch := omega) only [jset_k, jset_j, jset_same, true_and, and_true])
                                             · refine ⟨?_, ?_, ?_, ?_, ?_, ?_, ?_, ?_, ?_, ?_, ?_, ?_⟩
                                               · exact hI.2.2.1.1.fr (fun j => by show _ = M (1 + 0) j; unfold cv; simp (disch := omega) only [jset_k, jset_j, jset_same, true_and, and_true]) (fun i hi => by simp (disch := omega) only [jset_k, jset_j, jset_same, true_and, and_true])
                                               · exact hI.2.2.1.2.1.fr hI.2.1.2.1 (by omega) (fun k j a b => by show _ = M (1 + k) j; unfold cv; simp (disch := omega) only [jset_k, jset_j, jset_same, true_and, and_true]) (fun i a b => by simp (disch := omega) only [jset_k, jset_j, jset_same, true_and, and_true])
                                               · exact hI.2.2.1.2.2.1.fr hI.2.1.2.2.1 (by omega) (fun k j a b => by show _ = M (1 + k) j; unfold cv; simp (disch := omega) only [jset_k, jset_j, jset_same, true_and, and_true]) (fun i a b => by simp (disch := omega) only [jset_k, jset_j, jset_same, true_and, and_true])
                                               · exact hI.2.2.1.2.2.2.1.fr (by omega) (fun k j a b => by show _ = M (1 + k) j; unfold cv; simp (disch := omega) only [jset_k, jset_j, jset_same, true_and, and_true]) (fun i a b => by simp (disch := omega) only [jset_k, jset_j, jset_same, true_and, and_true])
                                               · intro q h0 h1
                                                 simp (disch := omega) only [jset_k, jset_j, jset_same, true_and, and_true] at h1
                                                 simp only [cv1, Int.reduceAdd]
                                                 have h := (hC.pers h0 h1).1
                                                 by_cases e : q = person
                                                 · subst e
                                                   simp (disch := omega) only [jset_k, jset_j, jset_same, true_and, and_true]
                                                   exact ⟨by omega, by omega, by omega, congrArg w32 (by omega), by omega⟩
                                                 · by_cases e2 : q = M 929 (1461 + (number / 100 - 1))
                                                   · have e3 : M (144 + (number / 100 - 1)) 1 = q := by omega
                                                     rw [e3, ← e2]
                                                     simp (disch := omega) only [jset_k, jset_j, jset_same, true_and, and_true]
                                                     exact ⟨by omega, by omega, by omega, congrArg w32 (by omega), by omega⟩
                                                   · simp (disch := omega) only [jset_k, jset_j, jset_same, true_and, and_true]
                                                     exact h
                                               · exact hI.2.2.1.2.2.2.2.2.1.fr (by omega) (fun k j a b => by show _ = M (1 + k) j; unfold cv; simp (disch := omega) only [jset_k, jset_j, jset_same, true_and, and_true]) (fun i a b => by simp (disch := omega) only [jset_k, jset_j, jset_same, true_and, and_true]) (fun i a b => by simp (disch := omega) only [jset_k, jset_j, jset_same, true_and, and_true])
                                               · intro t h0 h1
                                                 simp (disch := omega) only [jset_k, jset_j, jset_same, true_and, and_true] at h1
                                                 simp only [cv1, Int.reduceAdd]
                                                 have h := (hC.tk h0 h1).1
                                                 by_cases e : t = number / 100 - 1
                                                 · subst e
                                                   simp (disch := omega) only [jset_k, jset_j, jset_same, true_and, and_true]
                                                   first | omega | exact ⟨by omega, rfl, by omega, by omega⟩
                                                 · simp (disch := omega) only [jset_k, jset_j, jset_same, true_and, and_true]
                                                   exact h
                                               · exact hI.2.2.1.2.2.2.2.2.2.2.1.fr (by omega) (fun k j a b => by show _ = M (1 + k) j; unfold cv; simp (disch := omega) only [jset_k, jset_j, jset_same, true_and, and_true]) (fun i a b => by simp (disch := omega) only [jset_k, jset_j, jset_same, true_and, and_true])
                                               · exact hI.2.2.1.2.2.2.2.2.2.2.2.1.fr (fun k j a b => by show _ = M (1 + k) j; unfold cv; simp (disch := omega) only [jset_k, jset_j, jset_same, true_and, and_true]) (fun i a b => by simp (disch := omega) only [jset_k, jset_j, jset_same, true_and, and_true])
                                               · exact hI.2.2.1.2.2.2.2.2.2.2.2.2.1.fr (fun k j a b => by show _ = M (1 + k) j; unfold cv; simp (disch := omega) only [jset_k, jset_j, jset_same, true_and, and_true]) (fun i a b => by simp (disch := omega) only [jset_k, jset_j, jset_same, true_and, and_true])
                                               · exact hI.2.2.1.2.2.2.2.2.2.2.2.2.2.1.fr (by omega) (fun k j a b => by show _ = M (1 + k) j; unfold cv; simp (disch := omega) only [jset_k, jset_j, jset_same, true_and, and_true]) (fun i a b => by simp (disch := omega) only [jset_k, jset_j, jset_same, true_and, and_true])
                                               · exact hI.2.2.1.2.2.2.2.2.2.2.2.2.2.2.fr hI.2.1.2.2.2.2.2.2.2.2.2.2 (fun k j a b => by show _ = M (1 + k) j; unfold cv; simp (disch := omega) only [jset_k, jset_j, jset_same, true_and, and_true]) (fun i a b => by simp (disch := omega) only [jset_k, jset_j, jset_same, true_and, and_true])))
                                  · first
                                     | (exfalso; omega)
                                     | (skip
                                        refine e_bipush 80 dX12_sell_78 (by decide) rfl ?_
                                        refine e_iret dX12_sell_80 ?_
                                        first
                                          | (exact ⟨by omega, hI⟩)
                                          | (exfalso; omega)))
                            · first
                               | (exfalso; omega)
                               | (skip
                                  refine e_bipush 61 dX12_sell_59 (by decide) rfl ?_
                                  refine e_iret dX12_sell_61 ?_
                                  first
                                    | (exact ⟨by omega, hI⟩)
                                    | (exfalso; omega)))
                      · dsimp only [jpush]
                        first
                         | (exfalso; omega)
                         | (skip
                            refine e_if_eq 44 59 dX12_sell_41 (by decide) (by decide) rfl (fun _ => ?_) (fun h => absurd h (by decide))
                            refine e_bipush 61 dX12_sell_59 (by decide) rfl ?_
                            refine e_iret dX12_sell_61 ?_
                            first
                              | (exact ⟨by omega, hI⟩)
                              | (exfalso; omega)))
                · dsimp only [jpush]
                  first
                   | (exfalso; omega)
                   | (skip
                      refine e_if_ne 21 24 dX12_sell_18 (by decide) (by decide) rfl (fun h => absurd h (by decide)) (fun _ => ?_)
                      refine e_bipush 23 dX12_sell_21 (by decide) rfl ?_
                      refine e_iret dX12_sell_23 ?_
                      first
                        | (exact ⟨by omega, hI⟩)
                        | (exfalso; omega)))
      · dsimp only [jpush]
        refine e_if_ne 27 30 dX11_sell_24 (by decide) (by decide) rfl (fun h => absurd h (by decide)) (fun _ => ?_)
        refine e_bipush 29 dX11_sell_27 (by decide) rfl ?_
        refine e_iret dX11_sell_29 ?_
        refine jCt_of mt_yX12_sell (Nat.le_of_ble_eq_true rfl) (fun X2 => ?_)
        refine e_aload_n (i := 0) 1 dX12_sell_0 rfl rfl rfl ?_
        refine e_iconst 2 dX12_sell_1 rfl ?_
        refine e_put0 (j := 0) 5 fl_12_1 dX12_sell_2 at_928 rfl rfl rfl (by decide) hI.1 rfl ?_
        refine e_aload_n (i := 0) 6 dX12_sell_5 rfl rfl rfl ?_
        refine e_iload_n (i := 1) 7 dX12_sell_6 rfl rfl rfl ?_
        refine e_callV 10 mt_yX12_stateOf mv_yX12_stateOf wd_1535 (by decide) dX12_sell_7 at_928 jc_12 rfl rfl rfl (Nat.le_of_ble_eq_true rfl) (jroom (by decide)) rfl (m_stateOf (by omega) hg.2.2.2.1 (fun t a b => (hC.tk a b).2.2.2.1) (fun w7 => ?_) (fun w7 => ?_) (fun w7 => ?_) (fun w7 => ?_))
        · (exfalso; (try simp only [tkBad, tkGood] at *); omega)
        · (exfalso; (try simp only [tkBad, tkGood] at *); omega)
        · (exfalso; (try simp only [tkBad, tkGood] at *); omega)
        · dsimp only [jpush]
          first
           | (exfalso; omega)
           | (skip
              refine e_if_ne 13 21 dX12_sell_10 (by decide) (by decide) rfl (fun h => absurd h (by decide)) (fun _ => ?_)
              refine e_aload_n (i := 0) 14 dX12_sell_13 rfl rfl rfl ?_
              refine e_iload_n (i := 2) 15 dX12_sell_14 rfl rfl rfl ?_
              refine e_callV 18 mt_yX12_isPerson mv_yX12_isPerson wd_1506 (by decide) dX12_sell_15 at_928 jc_12 rfl rfl rfl (Nat.le_of_ble_eq_true rfl) (jroom (by decide)) rfl (m_isPerson (by omega) (fun w15 => ?_) (fun w15 => ?_))
              · dsimp only [jpush]
                first
                 | (exfalso; omega)
                 | (skip
                    refine e_if_ne 21 24 dX12_sell_18 (by decide) (by decide) rfl (fun _ => ?_) (fun h => absurd h (by decide))
                    refine e_iload_n (i := 1) 25 dX12_sell_24 rfl rfl rfl ?_
                    refine e_bipush 27 dX12_sell_25 (by decide) rfl ?_
                    have hg2 := w7.1
                    unfold tkGood at hg2
                    have ed : number.tdiv 100 = number / 100 := Int.tdiv_eq_ediv_of_nonneg (by omega)
                    refine e_idiv 28 dX12_sell_27 (by omega) (by decide) (by decide) rfl ?_
                    refine e_iconst 29 dX12_sell_28 rfl ?_
                    refine e_isub 30 dX12_sell_29 rfl ?_
                    rw [ed]
                    refine e_istore (lsn := [(4, _), (0, _), (1, _), (2, _), (3, _)]) 32 dX12_sell_30 (by decide) rfl rfl ?_
                    refine e_iload_n (i := 3) 33 dX12_sell_32 rfl rfl rfl ?_
                    refine e_i2l 34 dX12_sell_33 (by omega) rfl ?_
                    refine e_lconst0 35 dX12_sell_34 rfl ?_
                    refine e_ldc2 (z := (999)) 38 (ix := 198) wd_1482 (by decide) dX12_sell_35 rfl ?_
                    refine e_callS 41 mt_yX12_within ms_yX12_within wd_1390 (by decide) dX12_sell_38 rfl rfl (Nat.le_of_ble_eq_true rfl) (jroom (by decide)) rfl (m_within (by omega) (by omega) (by omega) (fun w38 => ?_) (fun w38 => ?_))
                    · dsimp only [jpush]
                      first
                       | (exfalso; omega)
                       | (skip
                          refine e_if_eq 44 59 dX12_sell_41 (by decide) (by decide) rfl (fun h => absurd h (by decide)) (fun _ => ?_)
                          refine e_aload_n (i := 0) 45 dX12_sell_44 rfl rfl rfl ?_
                          refine e_getr (j := 1) 48 fl_12_13 dX12_sell_45 at_928 rfl rfl tp_928_1 rfl ?_
                          refine e_sipush 51 dX12_sell_48 (by decide) rfl ?_
                          refine e_iload 53 dX12_sell_51 rfl rfl ?_
                          refine e_iadd 54 dX12_sell_53 rfl ?_
                          refine e_iald 55 dX12_sell_54 ar_929 (by omega) (by omega) rfl (fun r54 => ?_)
                          refine e_iload_n (i := 2) 56 dX12_sell_55 rfl rfl rfl ?_
                          refine e_icmp_ne 59 62 dX12_sell_56 (by omega) (by omega) (by decide) rfl (fun b56 => ?_) (fun b56 => ?_)
                          · first
                             | (exfalso; omega)
                             | (skip
                                refine e_aload_n (i := 0) 63 dX12_sell_62 rfl rfl rfl ?_
                                refine e_getr (j := 1) 66 fl_12_13 dX12_sell_63 at_928 rfl rfl tp_928_1 rfl ?_
                                refine e_sipush 69 dX12_sell_66 (by decide) rfl ?_
                                refine e_iload_n (i := 2) 70 dX12_sell_69 rfl rfl rfl ?_
                                refine e_iadd 71 dX12_sell_70 rfl ?_
                                refine e_iald 72 dX12_sell_71 ar_929 (by omega) (by omega) rfl (fun r71 => ?_)
                                refine e_iconst 73 dX12_sell_72 rfl ?_
                                refine e_iload_n (i := 3) 74 dX12_sell_73 rfl rfl rfl ?_
                                refine e_imul 75 dX12_sell_74 rfl ?_
                                refine e_icmp_ge 78 81 dX12_sell_75 (by omega) (by omega) (by decide) rfl (fun b75 => ?_) (fun b75 => ?_)
                                · first
                                   | (exfalso; omega)
                                   | (skip
                                      refine e_aload_n (i := 0) 82 dX12_sell_81 rfl rfl rfl ?_
                                      refine e_getr (j := 1) 85 fl_12_13 dX12_sell_82 at_928 rfl rfl tp_928_1 rfl ?_
                                      refine e_sipush 88 dX12_sell_85 (by decide) rfl ?_
                                      refine e_iload_n (i := 2) 89 dX12_sell_88 rfl rfl rfl ?_
                                      refine e_iadd 90 dX12_sell_89 rfl ?_
                                      refine e_dup2 91 dX12_sell_90 rfl rfl rfl ?_
                                      refine e_iald 92 dX12_sell_91 ar_929 (by omega) (by omega) rfl (fun r91 => ?_)
                                      refine e_iconst 93 dX12_sell_92 rfl ?_
                                      refine e_iload_n (i := 3) 94 dX12_sell_93 rfl rfl rfl ?_
                                      refine e_imul 95 dX12_sell_94 rfl ?_
                                      refine e_isub 96 dX12_sell_95 rfl ?_
                                      refine e_iastw 97 dX12_sell_96 ar_929 (by omega) (by omega) rfl ?_
                                      refine e_aload_n (i := 0) 98 dX12_sell_97 rfl rfl rfl ?_
                                      refine e_getr (j := 1) 101 fl_12_13 dX12_sell_98 at_928 rfl rfl tp_928_1 rfl ?_
                                      refine e_sipush 104 dX12_sell_101 (by decide) rfl ?_
                                      refine e_aload_n (i := 0) 105 dX12_sell_104 rfl rfl rfl ?_
                                      refine e_getr (j := 1) 108 fl_12_13 dX12_sell_105 at_928 rfl rfl tp_928_1 rfl ?_
                                      refine e_sipush 111 dX12_sell_108 (by decide) rfl ?_
                                      refine e_iload 113 dX12_sell_111 rfl rfl ?_
                                      refine e_iadd 114 dX12_sell_113 rfl ?_
                                      refine e_iald 115 dX12_sell_114 ar_929 (by omega) (by omega) rfl (fun r114 => ?_)
                                      simp (disch := omega) only [jset_k, jset_j, jset_same, true_and, and_true] at r114 ⊢
                                      refine e_iadd 116 dX12_sell_115 rfl ?_
                                      refine e_dup2 117 dX12_sell_116 rfl rfl rfl ?_
                                      refine e_iald 118 dX12_sell_117 ar_929 (by omega) (by omega) rfl (fun r117 => ?_)
                                      simp (disch := omega) only [jset_k, jset_j, jset_same, true_and, and_true] at r117 ⊢
                                      refine e_iconst 119 dX12_sell_118 rfl ?_
                                      refine e_iload_n (i := 3) 120 dX12_sell_119 rfl rfl rfl ?_
                                      refine e_imul 121 dX12_sell_120 rfl ?_
                                      refine e_iadd 122 dX12_sell_121 rfl ?_
                                      refine e_iastw 123 dX12_sell_122 ar_929 (by omega) (by omega) rfl ?_
                                      refine e_aload_n (i := 0) 124 dX12_sell_123 rfl rfl rfl ?_
                                      refine e_getr (j := 1) 127 fl_12_13 dX12_sell_124 at_928 rfl rfl tp_928_1 rfl ?_
                                      refine e_sipush 130 dX12_sell_127 (by decide) rfl ?_
                                      refine e_iload 132 dX12_sell_130 rfl rfl ?_
                                      refine e_iadd 133 dX12_sell_132 rfl ?_
                                      refine e_iload_n (i := 2) 134 dX12_sell_133 rfl rfl rfl ?_
                                      refine e_iast 135 dX12_sell_134 ar_929 (by omega) (by omega) (by omega) rfl ?_
                                      refine e_iconst 136 dX12_sell_135 rfl ?_
                                      refine e_iret dX12_sell_136 ?_
                                      first
                                        | (exact ⟨by omega, hI⟩)
                                        | (exfalso; omega)
                                        | ((try subst hM1)
                                           refine ⟨by omega, ?_⟩
                                           refine hI.live ?_ ?_ ?_
                                           · repeat (first | exact Live.rf | refine Live.c ?_ (by omega) | refine Live.r ?_ (by omega) | refine Live.s ?_ (by omega))
                                           · refine ⟨?_, ?_, ?_, ?_, ?_, ?_, ?_, ?_, ?_, ?_, ?_⟩
                                             · exact hI.2.1.1.fr (fun i hi => by simp (disch := omega) only [jset_k, jset_j, jset_same, true_and, and_true])
                                             · exact hI.2.1.2.1.fr (fun i a b => by simp (disch := omega) only [jset_k, jset_j, jset_same, true_and, and_true])
                                             · exact hI.2.1.2.2.1.fr (fun i a b => by simp (disch := omega) only [jset_k, jset_j, jset_same, true_and, and_true])
                                             · exact hI.2.1.2.2.2.1.fr (by omega) (fun i a b => by simp (disch := omega) only [jset_k, jset_j, jset_same, true_and, and_true])
                                             · exact hI.2.1.2.2.2.2.1.fr (by omega) (fun i a b => by simp (disch := omega) only [jset_k, jset_j, jset_same, true_and, and_true]) (fun i a b => by simp (disch := omega) only [jset_k, jset_j, jset_same, true_and, and_true])
                                             · exact hI.2.1.2.2.2.2.2.1.fr (by omega) (fun i a b => by simp (disch := omega) only [jset_k, jset_j, jset_same, true_and, and_true]) (fun i a b => by simp (disch := omega) only [jset_k, jset_j, jset_same, true_and, and_true]) (by simp (disch := omega) only [jset_k, jset_j, jset_same, true_and, and_true]; omega)
                                             · exact hI.2.1.2.2.2.2.2.2.1.fr (by omega) (by simp (disch := omega) only [jset_k, jset_j, jset_same, true_and, and_true]) (fun i a b => by simp (disch := omega) only [jset_k, jset_j, jset_same, true_and, and_true])
                                             · intro t h0 h1
                                               simp (disch := omega) only [jset_k, jset_j, jset_same, true_and, and_true] at h1
                                               have h := hI.2.1.2.2.2.2.2.2.2.1 t h0 h1
                                               by_cases e : t = number / 100 - 1
                                               · subst e
                                                 simp (disch := omega) only [jset_k, jset_j, jset_same, true_and, and_true]
                                                 omega
                                               · simp (disch := omega) only [jset_k, jset_j, jset_same, true_and, and_true]
                                                 exact h
                                             · exact hI.2.1.2.2.2.2.2.2.2.2.1.fr (by omega) (fun i a b => by simp (disch := omega) only [jset_k, jset_j, jset_same, true_and, and_true])
                                             · exact hI.2.1.2.2.2.2.2.2.2.2.2.1.fr (fun i a b => by simp (disch := omega) only [jset_k, jset_j, jset_same, true_and, and_true])
                                             · exact hI.2.1.2.2.2.2.2.2.2.2.2.2.fr (fun i a b => by simp (disch := omega) only [jset_k, jset_j, jset_same, true_and, and_true])
                                           · refine ⟨?_, ?_, ?_, ?_, ?_, ?_, ?_, ?_, ?_, ?_, ?_, ?_⟩
                                             · exact hI.2.2.1.1.fr (fun j => by show _ = M (1 + 0) j; unfold cv; simp (disch := omega) only [jset_k, jset_j, jset_same, true_and, and_true]) (fun i hi => by simp (disch := omega) only [jset_k, jset_j, jset_same, true_and, and_true])
                                             · exact hI.2.2.1.2.1.fr hI.2.1.2.1 (by omega) (fun k j a b => by show _ = M (1 + k) j; unfold cv; simp (disch := omega) only [jset_k, jset_j, jset_same, true_and, and_true]) (fun i a b => by simp (disch := omega) only [jset_k, jset_j, jset_same, true_and, and_true])
                                             · exact hI.2.2.1.2.2.1.fr hI.2.1.2.2.1 (by omega) (fun k j a b => by show _ = M (1 + k) j; unfold cv; simp (disch := omega) only [jset_k, jset_j, jset_same, true_and, and_true]) (fun i a b => by simp (disch := omega) only [jset_k, jset_j, jset_same, true_and, and_true])
                                             · exact hI.2.2.1.2.2.2.1.fr (by omega) (fun k j a b => by show _ = M (1 + k) j; unfold cv; simp (disch := omega) only [jset_k, jset_j, jset_same, true_and, and_true]) (fun i a b => by simp (disch := omega) only [jset_k, jset_j, jset_same, true_and, and_true])
                                             · intro q h0 h1
                                               simp (disch := omega) only [jset_k, jset_j, jset_same, true_and, and_true] at h1
                                               simp only [cv1, Int.reduceAdd]
                                               have h := (hC.pers h0 h1).1
                                               by_cases e : q = person
                                               · subst e
                                                 simp (disch := omega) only [jset_k, jset_j, jset_same, true_and, and_true]
                                                 exact ⟨by omega, by omega, by omega, congrArg w32 (by omega), by omega⟩
                                               · by_cases e2 : q = M 929 (1461 + (number / 100 - 1))
                                                 · have e3 : M (144 + (number / 100 - 1)) 1 = q := by omega
                                                   rw [e3, ← e2]
                                                   simp (disch := omega) only [jset_k, jset_j, jset_same, true_and, and_true]
                                                   exact ⟨by omega, by omega, by omega, congrArg w32 (by omega), by omega⟩
                                                 · simp (disch := omega) only [jset_k, jset_j, jset_same, true_and, and_true]
                                                   exact h
                                             · exact hI.2.2.1.2.2.2.2.2.1.fr (by omega) (fun k j a b => by show _ = M (1 + k) j; unfold cv; simp (disch := omega) only [jset_k, jset_j, jset_same, true_and, and_true]) (fun i a b => by simp (disch := omega) only [jset_k, jset_j, jset_same, true_and, and_true]) (fun i a b => by simp (disch := omega) only [jset_k, jset_j, jset_same, true_and, and_true])
                                             · intro t h0 h1
                                               simp (disch := omega) only [jset_k, jset_j, jset_same, true_and, and_true] at h1
                                               simp only [cv1, Int.reduceAdd]
                                               have h := (hC.tk h0 h1).1
                                               by_cases e : t = number / 100 - 1
                                               · subst e
                                                 simp (disch := omega) only [jset_k, jset_j, jset_same, true_and, and_true]
                                                 first | omega | exact ⟨by omega, rfl, by omega, by omega⟩
                                               · simp (disch := omega) only [jset_k, jset_j, jset_same, true_and, and_true]
                                                 exact h
                                             · exact hI.2.2.1.2.2.2.2.2.2.2.1.fr (by omega) (fun k j a b => by show _ = M (1 + k) j; unfold cv; simp (disch := omega) only [jset_k, jset_j, jset_same, true_and, and_true]) (fun i a b => by simp (disch := omega) only [jset_k, jset_j, jset_same, true_and, and_true])
                                             · exact hI.2.2.1.2.2.2.2.2.2.2.2.1.fr (fun k j a b => by show _ = M (1 + k) j; unfold cv; simp (disch := omega) only [jset_k, jset_j, jset_same, true_and, and_true]) (fun i a b => by simp (disch := omega) only [jset_k, jset_j, jset_same, true_and, and_true])
                                             · exact hI.2.2.1.2.2.2.2.2.2.2.2.2.1.fr (fun k j a b => by show _ = M (1 + k) j; unfold cv; simp (disch := omega) only [jset_k, jset_j, jset_same, true_and, and_true]) (fun i a b => by simp (disch := omega) only [jset_k, jset_j, jset_same, true_and, and_true])
                                             · exact hI.2.2.1.2.2.2.2.2.2.2.2.2.2.1.fr (by omega) (fun k j a b => by show _ = M (1 + k) j; unfold cv; simp (disch := omega) only [jset_k, jset_j, jset_same, true_and, and_true]) (fun i a b => by simp (disch := omega) only [jset_k, jset_j, jset_same, true_and, and_true])
                                             · exact hI.2.2.1.2.2.2.2.2.2.2.2.2.2.2.fr hI.2.1.2.2.2.2.2.2.2.2.2.2 (fun k j a b => by show _ = M (1 + k) j; unfold cv; simp (disch := omega) only [jset_k, jset_j, jset_same, true_and, and_true]) (fun i a b => by simp (disch := omega) only [jset_k, jset_j, jset_same, true_and, and_true])))
                                · first
                                   | (exfalso; omega)
                                   | (skip
                                      refine e_bipush 80 dX12_sell_78 (by decide) rfl ?_
                                      refine e_iret dX12_sell_80 ?_
                                      first
                                        | (exact ⟨by omega, hI⟩)
                                        | (exfalso; omega)))
                          · first
                             | (exfalso; omega)
                             | (skip
                                refine e_bipush 61 dX12_sell_59 (by decide) rfl ?_
                                refine e_iret dX12_sell_61 ?_
                                first
                                  | (exact ⟨by omega, hI⟩)
                                  | (exfalso; omega)))
                    · dsimp only [jpush]
                      first
                       | (exfalso; omega)
                       | (skip
                          refine e_if_eq 44 59 dX12_sell_41 (by decide) (by decide) rfl (fun _ => ?_) (fun h => absurd h (by decide))
                          refine e_bipush 61 dX12_sell_59 (by decide) rfl ?_
                          refine e_iret dX12_sell_61 ?_
                          first
                            | (exact ⟨by omega, hI⟩)
                            | (exfalso; omega)))
              · dsimp only [jpush]
                first
                 | (exfalso; omega)
                 | (skip
                    refine e_if_ne 21 24 dX12_sell_18 (by decide) (by decide) rfl (fun h => absurd h (by decide)) (fun _ => ?_)
                    refine e_bipush 23 dX12_sell_21 (by decide) rfl ?_
                    refine e_iret dX12_sell_23 ?_
                    first
                      | (exact ⟨by omega, hI⟩)
                      | (exfalso; omega)))
  · dsimp only [jpush]
    refine e_istore (lsn := [(4, _), (0, _), (1, _), (2, _), (3, _)]) 10 dX11_sell_8 (by decide) rfl rfl ?_
    refine e_iload 12 dX11_sell_10 rfl rfl ?_
    refine e_iconst 13 dX11_sell_12 rfl ?_
    refine e_icmp_eq 16 27 dX11_sell_13 (by decide) (by decide) (by decide) rfl (fun _ => ?_) (fun h => absurd h (by decide))
    refine e_bipush 29 dX11_sell_27 (by decide) rfl ?_
    refine e_iret dX11_sell_29 ?_
    refine jCt_of mt_yX12_sell (Nat.le_of_ble_eq_true rfl) (fun X2 => ?_)
    refine e_aload_n (i := 0) 1 dX12_sell_0 rfl rfl rfl ?_
    refine e_iconst 2 dX12_sell_1 rfl ?_
    refine e_put0 (j := 0) 5 fl_12_1 dX12_sell_2 at_928 rfl rfl rfl (by decide) hI.1 rfl ?_
    refine e_aload_n (i := 0) 6 dX12_sell_5 rfl rfl rfl ?_
    refine e_iload_n (i := 1) 7 dX12_sell_6 rfl rfl rfl ?_
    refine e_callV 10 mt_yX12_stateOf mv_yX12_stateOf wd_1535 (by decide) dX12_sell_7 at_928 jc_12 rfl rfl rfl (Nat.le_of_ble_eq_true rfl) (jroom (by decide)) rfl (m_stateOf (by omega) hg.2.2.2.1 (fun t a b => (hC.tk a b).2.2.2.1) (fun w7 => ?_) (fun w7 => ?_) (fun w7 => ?_) (fun w7 => ?_))
    · dsimp only [jpush]
      first
       | (exfalso; omega)
       | (skip
          refine e_if_ne 13 21 dX12_sell_10 (by decide) (by decide) rfl (fun _ => ?_) (fun h => absurd h (by decide))
          refine e_bipush 23 dX12_sell_21 (by decide) rfl ?_
          refine e_iret dX12_sell_23 ?_
          first
            | (exact ⟨by omega, hI⟩)
            | (exfalso; omega))
    · dsimp only [jpush]
      first
       | (exfalso; omega)
       | (skip
          refine e_if_ne 13 21 dX12_sell_10 (by decide) (by decide) rfl (fun _ => ?_) (fun h => absurd h (by decide))
          refine e_bipush 23 dX12_sell_21 (by decide) rfl ?_
          refine e_iret dX12_sell_23 ?_
          first
            | (exact ⟨by omega, hI⟩)
            | (exfalso; omega))
    · dsimp only [jpush]
      first
       | (exfalso; omega)
       | (skip
          refine e_if_ne 13 21 dX12_sell_10 (by decide) (by decide) rfl (fun _ => ?_) (fun h => absurd h (by decide))
          refine e_bipush 23 dX12_sell_21 (by decide) rfl ?_
          refine e_iret dX12_sell_23 ?_
          first
            | (exact ⟨by omega, hI⟩)
            | (exfalso; omega))
    · (exfalso; (try simp only [tkBad, tkGood] at *); omega)

theorem put_inv {a : Int → Int} {p r : Int} (h : RInv a) (h0 : 0 ≤ p) (h1 : p < a 709) (h2 : 0 ≤ r) (h3 : r < a 1761) (hs : a (1010 + p) = 0) : RInv (rset a (950 + p) r) := by
  have hg := h.1
  unfold RCnt at hg
  refine ⟨?_, ?_, ?_, ?_, ?_, ?_, ?_, ?_, ?_, ?_, ?_⟩
  · exact h.1.fr (fun i hi => by simp (disch := omega) only [rset_eq, rset_ne])
  · exact h.2.1.fr (fun i a b => by simp (disch := omega) only [rset_eq, rset_ne])
  · exact h.2.2.1.fr (fun i a b => by simp (disch := omega) only [rset_eq, rset_ne])
  · exact h.2.2.2.1.fr (by omega) (fun i a b => by simp (disch := omega) only [rset_eq, rset_ne])
  · exact h.2.2.2.2.1.fr (by omega) (fun i a b => by simp (disch := omega) only [rset_eq, rset_ne]) (fun i a b => by simp (disch := omega) only [rset_eq, rset_ne])
  · intro q q0 q1
    simp (disch := omega) only [rset_eq, rset_ne] at q1
    have hq := h.2.2.2.2.2.1 q q0 q1
    by_cases e : q = p
    · subst e
      simp (disch := omega) only [rset_eq, rset_ne]
      omega
    · simp (disch := omega) only [rset_eq, rset_ne]
      exact hq
  · exact h.2.2.2.2.2.2.1.fr (by omega) (by simp (disch := omega) only [rset_eq, rset_ne]) (fun i a b => by simp (disch := omega) only [rset_eq, rset_ne])
  · exact h.2.2.2.2.2.2.2.1.fr (by omega) (fun i a b => by simp (disch := omega) only [rset_eq, rset_ne]) (fun i a b => by simp (disch := omega) only [rset_eq, rset_ne]) (by simp (disch := omega) only [rset_eq, rset_ne]; omega)
  · exact h.2.2.2.2.2.2.2.2.1.fr (by omega) (fun i a b => by simp (disch := omega) only [rset_eq, rset_ne])
  · exact h.2.2.2.2.2.2.2.2.2.1.fr (fun i a b => by simp (disch := omega) only [rset_eq, rset_ne])
  · exact h.2.2.2.2.2.2.2.2.2.2.fr (fun i a b => by simp (disch := omega) only [rset_eq, rset_ne])

theorem put_left {a : Int → Int} {p r : Int} (h0 : 0 ≤ p) (h1 : p < 60) (hk : 0 ≤ a (710 + p) ∧ a (710 + p) < 12) (hr : 0 ≤ r ∧ r < 10) (hne : a (950 + p) ≠ r) (hK : ∀ q, 0 ≤ q → q < 60 → q < a 709 → 0 ≤ a (710 + q) ∧ a (710 + q) < 12) : ∀ n : Nat, (n : Int) ≤ 60 → (n : Int) ≤ a 709 → rLeft (rset a (950 + p) r) r n = rLeft a r n - (if p < n then a (583 + a (710 + p)) else 0)
  | 0, _, _ => by
    unfold rLeft
    rw [rset_ne (by omega), if_neg (by omega)]
    omega
  | n + 1, hn, hm => by
    have ih := put_left h0 h1 hk hr hne hK n (by omega) (by omega)
    have q := hK n (by omega) (by omega) (by omega)
    unfold rLeft
    rw [ih, rset_ne (j := 950 + p) (i := 710 + n) (by omega), rset_ne (j := 950 + p) (i := 583 + a (710 + n)) (by omega)]
    by_cases e : (n : Int) = p
    · rw [e, rset_eq, if_pos rfl, if_neg hne, if_neg (by omega), if_pos (show p < ((n + 1 : Nat) : Int) by omega)]
    · rw [rset_ne (by omega)]
      by_cases e2 : p < n
      · rw [if_pos e2, if_pos (show p < ((n + 1 : Nat) : Int) by omega)]
        omega
      · rw [if_neg e2, if_neg (show ¬ p < ((n + 1 : Nat) : Int) by omega)]
        omega
theorem p_put {M : jM} (hI : Inv M) {pledge : Int} (hpledge : -2147483648 ≤ pledge ∧ pledge ≤ 2147483647) {rack : Int} (hrack : -2147483648 ≤ rack ∧ rack ≤ 2147483647) : jCt yX11_put cX11_put 5 (some .int) 2 [jR 0, jI pledge, jI rack] M (fun z M1 => jCt yX12_put cX12_put 3 (some .int) 3 [jR 928, jI pledge, jI rack] M1 (fun z2 M2 => z = z2 ∧ Inv M2)) := by
  have hC := hI.cr
  have hn := hC.cnt
  have hg := hC.rng
  refine jCt_of mt_yX11_put (Nat.le_of_ble_eq_true rfl) (fun X => ?_)
  refine e_aload_n (i := 0) 1 dX11_put_0 rfl rfl rfl ?_
  refine e_getr (j := 0) 4 fl_11_10 dX11_put_1 at_0 rfl rfl tp_0_0 rfl ?_
  refine e_iload_n (i := 1) 5 dX11_put_4 rfl rfl rfl ?_
  refine e_callV 8 mt_yX8_hasPledge mv_yX8_hasPledge wd_854 (by decide) dX11_put_5 at_1 jc_8 rfl rfl rfl (Nat.le_of_ble_eq_true rfl) (jroom (by decide)) rfl (c_hasPledge (by omega) (fun w5 => ?_) (fun w5 => ?_))
  · dsimp only [jpush]
    refine e_if_eq 11 22 dX11_put_8 (by decide) (by decide) rfl (fun h => absurd h (by decide)) (fun _ => ?_)
    refine e_aload_n (i := 0) 12 dX11_put_11 rfl rfl rfl ?_
    refine e_getr (j := 0) 15 fl_11_10 dX11_put_12 at_0 rfl rfl tp_0_0 rfl ?_
    refine e_iload_n (i := 2) 16 dX11_put_15 rfl rfl rfl ?_
    refine e_callV 19 mt_yX8_hasRack mv_yX8_hasRack wd_946 (by decide) dX11_put_16 at_1 jc_8 rfl rfl rfl (Nat.le_of_ble_eq_true rfl) (jroom (by decide)) rfl (c_hasRack (by omega) (fun w16 => ?_) (fun w16 => ?_))
    · dsimp only [jpush]
      refine e_if_ne 22 25 dX11_put_19 (by decide) (by decide) rfl (fun _ => ?_) (fun h => absurd h (by decide))
      have hp := hC.pl (p := pledge) (by omega) (by omega)
      have hpr := hC.plr (p := pledge) (by omega) (by omega)
      have hk := hC.kind hpr.1.1 hpr.1.2
      have e0 : M (56 + M (84 + pledge) 0) 0 = M 929 (583 + M 929 (710 + pledge)) := by rw [hp.1.1]; exact hk.1.1
      have hlr := rLeft_rng hC.1 (r := rack) (by omega) (by omega) (M 929 709).toNat (by omega)
      refine e_aload_n (i := 0) 26 dX11_put_25 rfl rfl rfl ?_
      refine e_getr (j := 0) 29 fl_11_10 dX11_put_26 at_0 rfl rfl tp_0_0 rfl ?_
      refine e_getr (j := 9) 32 fl_11_200 dX11_put_29 at_1 rfl rfl tp_1_9 rfl ?_
      refine e_iload_n (i := 1) 33 dX11_put_32 rfl rfl rfl ?_
      refine e_aald 34 dX11_put_33 ar_18 (by decide) (by omega) (by omega) (tp_pledge (by omega) (by omega)) rfl ?_
      refine e_astore_n (i := 3) (lsn := [(3, _), (0, _), (1, _), (2, _)]) 35 dX11_put_34 rfl (by decide) rfl rfl ?_
      refine e_aload_n (i := 0) 36 dX11_put_35 rfl rfl rfl ?_
      refine e_getr (j := 0) 39 fl_11_10 dX11_put_36 at_0 rfl rfl tp_0_0 rfl ?_
      refine e_iload_n (i := 2) 40 dX11_put_39 rfl rfl rfl ?_
      refine e_callV 43 mt_yX8_roomLeft mv_yX8_roomLeft wd_950 (by decide) dX11_put_40 at_1 jc_8 rfl rfl rfl (Nat.le_of_ble_eq_true rfl) (jroom (by decide)) rfl (c_roomLeft hC (by omega) ?_)
      dsimp only [jpush]
      refine e_aload_n (i := 0) 44 dX11_put_43 rfl rfl rfl ?_
      refine e_getr (j := 0) 47 fl_11_10 dX11_put_44 at_0 rfl rfl tp_0_0 rfl ?_
      refine e_getr (j := 5) 50 fl_11_125 dX11_put_47 at_1 rfl rfl tp_1_5 rfl ?_
      refine e_aload_n (i := 3) 51 dX11_put_50 rfl rfl rfl ?_
      refine e_geti (j := 0) 54 fl_11_256 dX11_put_51 (at_pledge (by omega) (by omega)) (by decide) rfl rfl (fun r51 => ?_)
      refine e_aald 55 dX11_put_54 ar_16 (by decide) (by omega) (by omega) (tp_kind (by omega) (by omega)) rfl ?_
      refine e_geti (j := 0) 58 fl_11_129 dX11_put_55 (at_kind (by omega) (by omega)) (by decide) rfl rfl (fun r55 => ?_)
      refine e_isub 59 dX11_put_58 rfl ?_
      refine e_istore (lsn := [(4, _), (3, _), (0, _), (1, _), (2, _)]) 61 dX11_put_59 (by decide) rfl rfl ?_
      refine e_aload_n (i := 3) 62 dX11_put_61 rfl rfl rfl ?_
      refine e_geti (j := 6) 65 fl_11_247 dX11_put_62 (at_pledge (by omega) (by omega)) (by decide) rfl rfl (fun r62 => ?_)
      refine e_if_ne 68 81 dX11_put_65 (by omega) (by decide) rfl (fun b65 => ?_) (fun b65 => ?_)
      · skip
        refine e_bipush 83 dX11_put_81 (by decide) rfl ?_
        refine e_iret dX11_put_83 ?_
        refine jCt_of mt_yX12_put (Nat.le_of_ble_eq_true rfl) (fun X2 => ?_)
        refine e_aload_n (i := 0) 1 dX12_put_0 rfl rfl rfl ?_
        refine e_iconst 2 dX12_put_1 rfl ?_
        refine e_put0 (j := 0) 5 fl_12_1 dX12_put_2 at_928 rfl rfl rfl (by decide) hI.1 rfl ?_
        refine e_aload_n (i := 0) 6 dX12_put_5 rfl rfl rfl ?_
        refine e_iload_n (i := 1) 7 dX12_put_6 rfl rfl rfl ?_
        refine e_callV 10 mt_yX12_isPledge mv_yX12_isPledge wd_1579 (by decide) dX12_put_7 at_928 jc_12 rfl rfl rfl (Nat.le_of_ble_eq_true rfl) (jroom (by decide)) rfl (m_isPledge (by omega) (fun w7 => ?_) (fun w7 => ?_))
        · dsimp only [jpush]
          first
           | (exfalso; omega)
           | (skip
              refine e_if_eq 13 33 dX12_put_10 (by decide) (by decide) rfl (fun h => absurd h (by decide)) (fun _ => ?_)
              refine e_iload_n (i := 2) 14 dX12_put_13 rfl rfl rfl ?_
              refine e_i2l 15 dX12_put_14 (by omega) rfl ?_
              refine e_lconst0 16 dX12_put_15 rfl ?_
              refine e_aload_n (i := 0) 17 dX12_put_16 rfl rfl rfl ?_
              refine e_getr (j := 1) 20 fl_12_13 dX12_put_17 at_928 rfl rfl tp_928_1 rfl ?_
              refine e_sipush 23 dX12_put_20 (by decide) rfl ?_
              refine e_iald 24 dX12_put_23 ar_929 (by decide) (by decide) rfl (fun r23 => ?_)
              refine e_iconst 25 dX12_put_24 rfl ?_
              refine e_isub 26 dX12_put_25 rfl ?_
              refine e_i2l 27 dX12_put_26 (by omega) rfl ?_
              refine e_callS 30 mt_yX12_within ms_yX12_within wd_1390 (by decide) dX12_put_27 rfl rfl (Nat.le_of_ble_eq_true rfl) (jroom (by decide)) rfl (m_within (by omega) (by omega) (by omega) (fun w27 => ?_) (fun w27 => ?_))
              · dsimp only [jpush]
                first
                 | (exfalso; omega)
                 | (skip
                    refine e_if_ne 33 36 dX12_put_30 (by decide) (by decide) rfl (fun _ => ?_) (fun h => absurd h (by decide))
                    refine e_aload_n (i := 0) 37 dX12_put_36 rfl rfl rfl ?_
                    refine e_getr (j := 1) 40 fl_12_13 dX12_put_37 at_928 rfl rfl tp_928_1 rfl ?_
                    refine e_sipush 43 dX12_put_40 (by decide) rfl ?_
                    refine e_iload_n (i := 1) 44 dX12_put_43 rfl rfl rfl ?_
                    refine e_iadd 45 dX12_put_44 rfl ?_
                    refine e_iald 46 dX12_put_45 ar_929 (by omega) (by omega) rfl (fun r45 => ?_)
                    refine e_if_ne 49 76 dX12_put_46 (by omega) (by decide) rfl (fun b46 => ?_) (fun b46 => ?_)
                    · first
                       | (exfalso; omega)
                       | (skip
                          refine e_bipush 78 dX12_put_76 (by decide) rfl ?_
                          refine e_iret dX12_put_78 ?_
                          first
                            | (exact ⟨by omega, hI⟩)
                            | (exfalso; omega))
                    · first
                       | (exfalso; omega)
                       | (skip
                          refine e_aload_n (i := 0) 50 dX12_put_49 rfl rfl rfl ?_
                          refine e_getr (j := 1) 53 fl_12_13 dX12_put_50 at_928 rfl rfl tp_928_1 rfl ?_
                          refine e_sipush 56 dX12_put_53 (by decide) rfl ?_
                          refine e_iload_n (i := 1) 57 dX12_put_56 rfl rfl rfl ?_
                          refine e_iadd 58 dX12_put_57 rfl ?_
                          refine e_iald 59 dX12_put_58 ar_929 (by omega) (by omega) rfl (fun r58 => ?_)
                          refine e_iload_n (i := 2) 60 dX12_put_59 rfl rfl rfl ?_
                          refine e_icmp_eq 63 76 dX12_put_60 (by omega) (by omega) (by decide) rfl (fun b60 => ?_) (fun b60 => ?_)
                          · first
                             | (exfalso; omega)
                             | (skip
                                refine e_bipush 78 dX12_put_76 (by decide) rfl ?_
                                refine e_iret dX12_put_78 ?_
                                first
                                  | (exact ⟨by omega, hI⟩)
                                  | (exfalso; omega))
                          · first
                             | (exfalso; omega)
                             | (skip
                                refine e_aload_n (i := 0) 64 dX12_put_63 rfl rfl rfl ?_
                                refine e_iload_n (i := 2) 65 dX12_put_64 rfl rfl rfl ?_
                                refine e_callV 68 mt_yX12_leftOn mv_yX12_leftOn wd_1645 (by decide) dX12_put_65 at_928 jc_12 rfl rfl rfl (Nat.le_of_ble_eq_true rfl) (jroom (by decide)) rfl (m_leftOn hI.2.1 (by omega) ?_)
                                dsimp only [jpush]
                                refine e_aload_n (i := 0) 69 dX12_put_68 rfl rfl rfl ?_
                                refine e_iload_n (i := 1) 70 dX12_put_69 rfl rfl rfl ?_
                                refine e_callV 73 mt_yX12_sizeOf mv_yX12_sizeOf wd_1649 (by decide) dX12_put_70 at_928 jc_12 rfl rfl rfl (Nat.le_of_ble_eq_true rfl) (jroom (by decide)) rfl (m_sizeOf (by omega) (by omega) ?_)
                                dsimp only [jpush]
                                refine e_icmp_ge 76 79 dX12_put_73 (by omega) (by omega) (by decide) rfl (fun b73 => ?_) (fun b73 => ?_)
                                · first
                                   | (exfalso; omega)
                                   | (skip
                                      refine e_aload_n (i := 0) 80 dX12_put_79 rfl rfl rfl ?_
                                      refine e_getr (j := 1) 83 fl_12_13 dX12_put_80 at_928 rfl rfl tp_928_1 rfl ?_
                                      refine e_sipush 86 dX12_put_83 (by decide) rfl ?_
                                      refine e_iload_n (i := 1) 87 dX12_put_86 rfl rfl rfl ?_
                                      refine e_iadd 88 dX12_put_87 rfl ?_
                                      refine e_iload_n (i := 2) 89 dX12_put_88 rfl rfl rfl ?_
                                      refine e_iast 90 dX12_put_89 ar_929 (by omega) (by omega) (by omega) rfl ?_
                                      have hP := put_left (a := M 929) (p := pledge) (r := rack) (by omega) (by omega) (by omega) (by omega) (by omega) (fun q q0 q1 q2 => by have := hC.plr q0 q2; omega) (M 929 709).toNat (by omega) (by omega)
                                      rw [if_pos (by omega)] at hP
                                      have hQ : jset M1 929 (950 + pledge) rack 929 = rset (M 929) (950 + pledge) rack := by rw [jset_929, hA]
                                      have hV := put_inv hC.1 (p := pledge) (r := rack) (by omega) (by omega) (by omega) (by omega) (by omega)
                                      refine e_aload_n (i := 0) 91 dX12_put_90 rfl rfl rfl ?_
                                      refine e_iload_n (i := 2) 92 dX12_put_91 rfl rfl rfl ?_
                                      refine e_callV 95 mt_yX12_leftOn mv_yX12_leftOn wd_1645 (by decide) dX12_put_92 at_928 jc_12 rfl rfl rfl (Nat.le_of_ble_eq_true rfl) (jroom (by decide)) rfl (m_leftOn (by rw [hQ]; exact hV) (by omega) ?_)
                                      dsimp only [jpush]
                                      rw [hQ, hP]
                                      refine e_iret dX12_put_95 ?_
                                      first
                                        | (exact ⟨by omega, hI⟩)
                                        | (exfalso; omega)
                                        | ((try subst hM1)
                                           refine ⟨by omega, ?_⟩
                                           refine hI.live ?_ ?_ ?_
                                           · repeat (first | exact Live.rf | refine Live.c ?_ (by omega) | refine Live.r ?_ (by omega) | refine Live.s ?_ (by omega))
                                           · refine ⟨?_, ?_, ?_, ?_, ?_, ?_, ?_, ?_, ?_, ?_, ?_⟩
                                             · exact hI.2.1.1.fr (fun i hi => by simp (disch := omega) only [jset_k, jset_j, jset_same, true_and, and_true])
                                             · exact hI.2.1.2.1.fr (fun i a b => by simp (disch := omega) only [jset_k, jset_j, jset_same, true_and, and_true])
                                             · exact hI.2.1.2.2.1.fr (fun i a b => by simp (disch := omega) only [jset_k, jset_j, jset_same, true_and, and_true])
                                             · exact hI.2.1.2.2.2.1.fr (by omega) (fun i a b => by simp (disch := omega) only [jset_k, jset_j, jset_same, true_and, and_true])
                                             · exact hI.2.1.2.2.2.2.1.fr (by omega) (fun i a b => by simp (disch := omega) only [jset_k, jset_j, jset_same, true_and, and_true]) (fun i a b => by simp (disch := omega) only [jset_k, jset_j, jset_same, true_and, and_true])
                                             · have hV2 := hV.2.2.2.2.2.1
                                               rw [← hQ] at hV2
                                               exact hV2
                                             · exact hI.2.1.2.2.2.2.2.2.1.fr (by omega) (by simp (disch := omega) only [jset_k, jset_j, jset_same, true_and, and_true]) (fun i a b => by simp (disch := omega) only [jset_k, jset_j, jset_same, true_and, and_true])
                                             · exact hI.2.1.2.2.2.2.2.2.2.1.fr (by omega) (fun i a b => by simp (disch := omega) only [jset_k, jset_j, jset_same, true_and, and_true]) (fun i a b => by simp (disch := omega) only [jset_k, jset_j, jset_same, true_and, and_true]) (by simp (disch := omega) only [jset_k, jset_j, jset_same, true_and, and_true]; omega)
                                             · exact hI.2.1.2.2.2.2.2.2.2.2.1.fr (by omega) (fun i a b => by simp (disch := omega) only [jset_k, jset_j, jset_same, true_and, and_true])
                                             · exact hI.2.1.2.2.2.2.2.2.2.2.2.1.fr (fun i a b => by simp (disch := omega) only [jset_k, jset_j, jset_same, true_and, and_true])
                                             · exact hI.2.1.2.2.2.2.2.2.2.2.2.2.fr (fun i a b => by simp (disch := omega) only [jset_k, jset_j, jset_same, true_and, and_true])
                                           · refine ⟨?_, ?_, ?_, ?_, ?_, ?_, ?_, ?_, ?_, ?_, ?_, ?_⟩
                                             · exact hI.2.2.1.1.fr (fun j => by show _ = M (1 + 0) j; unfold cv; simp (disch := omega) only [jset_k, jset_j, jset_same, true_and, and_true]) (fun i hi => by simp (disch := omega) only [jset_k, jset_j, jset_same, true_and, and_true])
                                             · exact hI.2.2.1.2.1.fr hI.2.1.2.1 (by omega) (fun k j a b => by show _ = M (1 + k) j; unfold cv; simp (disch := omega) only [jset_k, jset_j, jset_same, true_and, and_true]) (fun i a b => by simp (disch := omega) only [jset_k, jset_j, jset_same, true_and, and_true])
                                             · exact hI.2.2.1.2.2.1.fr hI.2.1.2.2.1 (by omega) (fun k j a b => by show _ = M (1 + k) j; unfold cv; simp (disch := omega) only [jset_k, jset_j, jset_same, true_and, and_true]) (fun i a b => by simp (disch := omega) only [jset_k, jset_j, jset_same, true_and, and_true])
                                             · exact hI.2.2.1.2.2.2.1.fr (by omega) (fun k j a b => by show _ = M (1 + k) j; unfold cv; simp (disch := omega) only [jset_k, jset_j, jset_same, true_and, and_true]) (fun i a b => by simp (disch := omega) only [jset_k, jset_j, jset_same, true_and, and_true])
                                             · exact hI.2.2.1.2.2.2.2.1.fr (by omega) (fun k j a b => by show _ = M (1 + k) j; unfold cv; simp (disch := omega) only [jset_k, jset_j, jset_same, true_and, and_true]) (fun i a b => by simp (disch := omega) only [jset_k, jset_j, jset_same, true_and, and_true]) (fun i a b => by simp (disch := omega) only [jset_k, jset_j, jset_same, true_and, and_true])
                                             · intro q h0 h1
                                               simp (disch := omega) only [jset_k, jset_j, jset_same, true_and, and_true] at h1
                                               simp only [cv1, Int.reduceAdd]
                                               have h := hC.pl h0 h1
                                               by_cases e : q = pledge
                                               · subst e
                                                 simp (disch := omega) only [jset_k, jset_j, jset_same, true_and, and_true]
                                                 first | omega | simp | exact h
                                               · simp (disch := omega) only [jset_k, jset_j, jset_same, true_and, and_true]
                                                 exact h
                                             · exact hI.2.2.1.2.2.2.2.2.2.1.fr (by omega) (fun k j a b => by show _ = M (1 + k) j; unfold cv; simp (disch := omega) only [jset_k, jset_j, jset_same, true_and, and_true]) (fun i a b => by simp (disch := omega) only [jset_k, jset_j, jset_same, true_and, and_true]) (fun i a b => by simp (disch := omega) only [jset_k, jset_j, jset_same, true_and, and_true])
                                             · exact hI.2.2.1.2.2.2.2.2.2.2.1.fr (by omega) (fun k j a b => by show _ = M (1 + k) j; unfold cv; simp (disch := omega) only [jset_k, jset_j, jset_same, true_and, and_true]) (fun i a b => by simp (disch := omega) only [jset_k, jset_j, jset_same, true_and, and_true])
                                             · exact hI.2.2.1.2.2.2.2.2.2.2.2.1.fr (fun k j a b => by show _ = M (1 + k) j; unfold cv; simp (disch := omega) only [jset_k, jset_j, jset_same, true_and, and_true]) (fun i a b => by simp (disch := omega) only [jset_k, jset_j, jset_same, true_and, and_true])
                                             · exact hI.2.2.1.2.2.2.2.2.2.2.2.2.1.fr (fun k j a b => by show _ = M (1 + k) j; unfold cv; simp (disch := omega) only [jset_k, jset_j, jset_same, true_and, and_true]) (fun i a b => by simp (disch := omega) only [jset_k, jset_j, jset_same, true_and, and_true])
                                             · exact hI.2.2.1.2.2.2.2.2.2.2.2.2.2.1.fr (by omega) (fun k j a b => by show _ = M (1 + k) j; unfold cv; simp (disch := omega) only [jset_k, jset_j, jset_same, true_and, and_true]) (fun i a b => by simp (disch := omega) only [jset_k, jset_j, jset_same, true_and, and_true])
                                             · exact hI.2.2.1.2.2.2.2.2.2.2.2.2.2.2.fr hI.2.1.2.2.2.2.2.2.2.2.2.2 (fun k j a b => by show _ = M (1 + k) j; unfold cv; simp (disch := omega) only [jset_k, jset_j, jset_same, true_and, and_true]) (fun i a b => by simp (disch := omega) only [jset_k, jset_j, jset_same, true_and, and_true])))
                                · first
                                   | (exfalso; omega)
                                   | (skip
                                      refine e_bipush 78 dX12_put_76 (by decide) rfl ?_
                                      refine e_iret dX12_put_78 ?_
                                      first
                                        | (exact ⟨by omega, hI⟩)
                                        | (exfalso; omega)))))
              · dsimp only [jpush]
                first
                 | (exfalso; omega)
                 | (skip
                    refine e_if_ne 33 36 dX12_put_30 (by decide) (by decide) rfl (fun h => absurd h (by decide)) (fun _ => ?_)
                    refine e_bipush 35 dX12_put_33 (by decide) rfl ?_
                    refine e_iret dX12_put_35 ?_
                    first
                      | (exact ⟨by omega, hI⟩)
                      | (exfalso; omega)))
        · dsimp only [jpush]
          first
           | (exfalso; omega)
           | (skip
              refine e_if_eq 13 33 dX12_put_10 (by decide) (by decide) rfl (fun _ => ?_) (fun h => absurd h (by decide))
              refine e_bipush 35 dX12_put_33 (by decide) rfl ?_
              refine e_iret dX12_put_35 ?_
              first
                | (exact ⟨by omega, hI⟩)
                | (exfalso; omega))
      · skip
        refine e_aload_n (i := 3) 69 dX11_put_68 rfl rfl rfl ?_
        refine e_geti (j := 5) 72 fl_11_262 dX11_put_69 (at_pledge (by omega) (by omega)) (by decide) rfl rfl (fun r69 => ?_)
        refine e_iload_n (i := 2) 73 dX11_put_72 rfl rfl rfl ?_
        refine e_icmp_eq 76 81 dX11_put_73 (by omega) (by omega) (by decide) rfl (fun b73 => ?_) (fun b73 => ?_)
        · skip
          refine e_bipush 83 dX11_put_81 (by decide) rfl ?_
          refine e_iret dX11_put_83 ?_
          refine jCt_of mt_yX12_put (Nat.le_of_ble_eq_true rfl) (fun X2 => ?_)
          refine e_aload_n (i := 0) 1 dX12_put_0 rfl rfl rfl ?_
          refine e_iconst 2 dX12_put_1 rfl ?_
          refine e_put0 (j := 0) 5 fl_12_1 dX12_put_2 at_928 rfl rfl rfl (by decide) hI.1 rfl ?_
          refine e_aload_n (i := 0) 6 dX12_put_5 rfl rfl rfl ?_
          refine e_iload_n (i := 1) 7 dX12_put_6 rfl rfl rfl ?_
          refine e_callV 10 mt_yX12_isPledge mv_yX12_isPledge wd_1579 (by decide) dX12_put_7 at_928 jc_12 rfl rfl rfl (Nat.le_of_ble_eq_true rfl) (jroom (by decide)) rfl (m_isPledge (by omega) (fun w7 => ?_) (fun w7 => ?_))
          · dsimp only [jpush]
            first
             | (exfalso; omega)
             | (skip
                refine e_if_eq 13 33 dX12_put_10 (by decide) (by decide) rfl (fun h => absurd h (by decide)) (fun _ => ?_)
                refine e_iload_n (i := 2) 14 dX12_put_13 rfl rfl rfl ?_
                refine e_i2l 15 dX12_put_14 (by omega) rfl ?_
                refine e_lconst0 16 dX12_put_15 rfl ?_
                refine e_aload_n (i := 0) 17 dX12_put_16 rfl rfl rfl ?_
                refine e_getr (j := 1) 20 fl_12_13 dX12_put_17 at_928 rfl rfl tp_928_1 rfl ?_
                refine e_sipush 23 dX12_put_20 (by decide) rfl ?_
                refine e_iald 24 dX12_put_23 ar_929 (by decide) (by decide) rfl (fun r23 => ?_)
                refine e_iconst 25 dX12_put_24 rfl ?_
                refine e_isub 26 dX12_put_25 rfl ?_
                refine e_i2l 27 dX12_put_26 (by omega) rfl ?_
                refine e_callS 30 mt_yX12_within ms_yX12_within wd_1390 (by decide) dX12_put_27 rfl rfl (Nat.le_of_ble_eq_true rfl) (jroom (by decide)) rfl (m_within (by omega) (by omega) (by omega) (fun w27 => ?_) (fun w27 => ?_))
                · dsimp only [jpush]
                  first
                   | (exfalso; omega)
                   | (skip
                      refine e_if_ne 33 36 dX12_put_30 (by decide) (by decide) rfl (fun _ => ?_) (fun h => absurd h (by decide))
                      refine e_aload_n (i := 0) 37 dX12_put_36 rfl rfl rfl ?_
                      refine e_getr (j := 1) 40 fl_12_13 dX12_put_37 at_928 rfl rfl tp_928_1 rfl ?_
                      refine e_sipush 43 dX12_put_40 (by decide) rfl ?_
                      refine e_iload_n (i := 1) 44 dX12_put_43 rfl rfl rfl ?_
                      refine e_iadd 45 dX12_put_44 rfl ?_
                      refine e_iald 46 dX12_put_45 ar_929 (by omega) (by omega) rfl (fun r45 => ?_)
                      refine e_if_ne 49 76 dX12_put_46 (by omega) (by decide) rfl (fun b46 => ?_) (fun b46 => ?_)
                      · first
                         | (exfalso; omega)
                         | (skip
                            refine e_bipush 78 dX12_put_76 (by decide) rfl ?_
                            refine e_iret dX12_put_78 ?_
                            first
                              | (exact ⟨by omega, hI⟩)
                              | (exfalso; omega))
                      · first
                         | (exfalso; omega)
                         | (skip
                            refine e_aload_n (i := 0) 50 dX12_put_49 rfl rfl rfl ?_
                            refine e_getr (j := 1) 53 fl_12_13 dX12_put_50 at_928 rfl rfl tp_928_1 rfl ?_
                            refine e_sipush 56 dX12_put_53 (by decide) rfl ?_
                            refine e_iload_n (i := 1) 57 dX12_put_56 rfl rfl rfl ?_
                            refine e_iadd 58 dX12_put_57 rfl ?_
                            refine e_iald 59 dX12_put_58 ar_929 (by omega) (by omega) rfl (fun r58 => ?_)
                            refine e_iload_n (i := 2) 60 dX12_put_59 rfl rfl rfl ?_
                            refine e_icmp_eq 63 76 dX12_put_60 (by omega) (by omega) (by decide) rfl (fun b60 => ?_) (fun b60 => ?_)
                            · first
                               | (exfalso; omega)
                               | (skip
                                  refine e_bipush 78 dX12_put_76 (by decide) rfl ?_
                                  refine e_iret dX12_put_78 ?_
                                  first
                                    | (exact ⟨by omega, hI⟩)
                                    | (exfalso; omega))
                            · first
                               | (exfalso; omega)
                               | (skip
                                  refine e_aload_n (i := 0) 64 dX12_put_63 rfl rfl rfl ?_
                                  refine e_iload_n (i := 2) 65 dX12_put_64 rfl rfl rfl ?_
                                  refine e_callV 68 mt_yX12_leftOn mv_yX12_leftOn wd_1645 (by decide) dX12_put_65 at_928 jc_12 rfl rfl rfl (Nat.le_of_ble_eq_true rfl) (jroom (by decide)) rfl (m_leftOn hI.2.1 (by omega) ?_)
                                  dsimp only [jpush]
                                  refine e_aload_n (i := 0) 69 dX12_put_68 rfl rfl rfl ?_
                                  refine e_iload_n (i := 1) 70 dX12_put_69 rfl rfl rfl ?_
                                  refine e_callV 73 mt_yX12_sizeOf mv_yX12_sizeOf wd_1649 (by decide) dX12_put_70 at_928 jc_12 rfl rfl rfl (Nat.le_of_ble_eq_true rfl) (jroom (by decide)) rfl (m_sizeOf (by omega) (by omega) ?_)
                                  dsimp only [jpush]
                                  refine e_icmp_ge 76 79 dX12_put_73 (by omega) (by omega) (by decide) rfl (fun b73 => ?_) (fun b73 => ?_)
                                  · first
                                     | (exfalso; omega)
                                     | (skip
                                        refine e_aload_n (i := 0) 80 dX12_put_79 rfl rfl rfl ?_
                                        refine e_getr (j := 1) 83 fl_12_13 dX12_put_80 at_928 rfl rfl tp_928_1 rfl ?_
                                        refine e_sipush 86 dX12_put_83 (by decide) rfl ?_
                                        refine e_iload_n (i := 1) 87 dX12_put_86 rfl rfl rfl ?_
                                        refine e_iadd 88 dX12_put_87 rfl ?_
                                        refine e_iload_n (i := 2) 89 dX12_put_88 rfl rfl rfl ?_
                                        refine e_iast 90 dX12_put_89 ar_929 (by omega) (by omega) (by omega) rfl ?_
                                        have hP := put_left (a := M 929) (p := pledge) (r := rack) (by omega) (by omega) (by omega) (by omega) (by omega) (fun q q0 q1 q2 => by have := hC.plr q0 q2; omega) (M 929 709).toNat (by omega) (by omega)
                                        rw [if_pos (by omega)] at hP
                                        have hQ : jset M1 929 (950 + pledge) rack 929 = rset (M 929) (950 + pledge) rack := by rw [jset_929, hA]
                                        have hV := put_inv hC.1 (p := pledge) (r := rack) (by omega) (by omega) (by omega) (by omega) (by omega)
                                        refine e_aload_n (i := 0) 91 dX12_put_90 rfl rfl rfl ?_
                                        refine e_iload_n (i := 2) 92 dX12_put_91 rfl rfl rfl ?_
                                        refine e_callV 95 mt_yX12_leftOn mv_yX12_leftOn wd_1645 (by decide) dX12_put_92 at_928 jc_12 rfl rfl rfl (Nat.le_of_ble_eq_true rfl) (jroom (by decide)) rfl (m_leftOn (by rw [hQ]; exact hV) (by omega) ?_)
                                        dsimp only [jpush]
                                        rw [hQ, hP]
                                        refine e_iret dX12_put_95 ?_
                                        first
                                          | (exact ⟨by omega, hI⟩)
                                          | (exfalso; omega)
                                          | ((try subst hM1)
                                             refine ⟨by omega, ?_⟩
                                             refine hI.live ?_ ?_ ?_
                                             · repeat (first | exact Live.rf | refine Live.c ?_ (by omega) | refine Live.r ?_ (by omega) | refine Live.s ?_ (by omega))
                                             · refine ⟨?_, ?_, ?_, ?_, ?_, ?_, ?_, ?_, ?_, ?_, ?_⟩
                                               · exact hI.2.1.1.fr (fun i hi => by simp (disch := omega) only [jset_k, jset_j, jset_same, true_and, and_true])
                                               · exact hI.2.1.2.1.fr (fun i a b => by simp (disch := omega) only [jset_k, jset_j, jset_same, true_and, and_true])
                                               · exact hI.2.1.2.2.1.fr (fun i a b => by simp (disch := omega) only [jset_k, jset_j, jset_same, true_and, and_true])
                                               · exact hI.2.1.2.2.2.1.fr (by omega) (fun i a b => by simp (disch := omega) only [jset_k, jset_j, jset_same, true_and, and_true])
                                               · exact hI.2.1.2.2.2.2.1.fr (by omega) (fun i a b => by simp (disch := omega) only [jset_k, jset_j, jset_same, true_and, and_true]) (fun i a b => by simp (disch := omega) only [jset_k, jset_j, jset_same, true_and, and_true])
                                               · have hV2 := hV.2.2.2.2.2.1
                                                 rw [← hQ] at hV2
                                                 exact hV2
                                               · exact hI.2.1.2.2.2.2.2.2.1.fr (by omega) (by simp (disch := omega) only [jset_k, jset_j, jset_same, true_and, and_true]) (fun i a b => by simp (disch := omega) only [jset_k, jset_j, jset_same, true_and, and_true])
                                               · exact hI.2.1.2.2.2.2.2.2.2.1.fr (by omega) (fun i a b => by simp (disch := omega) only [jset_k, jset_j, jset_same, true_and, and_true]) (fun i a b => by simp (disch := omega) only [jset_k, jset_j, jset_same, true_and, and_true]) (by simp (disch := omega) only [jset_k, jset_j, jset_same, true_and, and_true]; omega)
                                               · exact hI.2.1.2.2.2.2.2.2.2.2.1.fr (by omega) (fun i a b => by simp (disch := omega) only [jset_k, jset_j, jset_same, true_and, and_true])
                                               · exact hI.2.1.2.2.2.2.2.2.2.2.2.1.fr (fun i a b => by simp (disch := omega) only [jset_k, jset_j, jset_same, true_and, and_true])
                                               · exact hI.2.1.2.2.2.2.2.2.2.2.2.2.fr (fun i a b => by simp (disch := omega) only [jset_k, jset_j, jset_same, true_and, and_true])
                                             · refine ⟨?_, ?_, ?_, ?_, ?_, ?_, ?_, ?_, ?_, ?_, ?_, ?_⟩
                                               · exact hI.2.2.1.1.fr (fun j => by show _ = M (1 + 0) j; unfold cv; simp (disch := omega) only [jset_k, jset_j, jset_same, true_and, and_true]) (fun i hi => by simp (disch := omega) only [jset_k, jset_j, jset_same, true_and, and_true])
                                               · exact hI.2.2.1.2.1.fr hI.2.1.2.1 (by omega) (fun k j a b => by show _ = M (1 + k) j; unfold cv; simp (disch := omega) only [jset_k, jset_j, jset_same, true_and, and_true]) (fun i a b => by simp (disch := omega) only [jset_k, jset_j, jset_same, true_and, and_true])
                                               · exact hI.2.2.1.2.2.1.fr hI.2.1.2.2.1 (by omega) (fun k j a b => by show _ = M (1 + k) j; unfold cv; simp (disch := omega) only [jset_k, jset_j, jset_same, true_and, and_true]) (fun i a b => by simp (disch := omega) only [jset_k, jset_j, jset_same, true_and, and_true])
                                               · exact hI.2.2.1.2.2.2.1.fr (by omega) (fun k j a b => by show _ = M (1 + k) j; unfold cv; simp (disch := omega) only [jset_k, jset_j, jset_same, true_and, and_true]) (fun i a b => by simp (disch := omega) only [jset_k, jset_j, jset_same, true_and, and_true])
                                               · exact hI.2.2.1.2.2.2.2.1.fr (by omega) (fun k j a b => by show _ = M (1 + k) j; unfold cv; simp (disch := omega) only [jset_k, jset_j, jset_same, true_and, and_true]) (fun i a b => by simp (disch := omega) only [jset_k, jset_j, jset_same, true_and, and_true]) (fun i a b => by simp (disch := omega) only [jset_k, jset_j, jset_same, true_and, and_true])
                                               · intro q h0 h1
                                                 simp (disch := omega) only [jset_k, jset_j, jset_same, true_and, and_true] at h1
                                                 simp only [cv1, Int.reduceAdd]
                                                 have h := hC.pl h0 h1
                                                 by_cases e : q = pledge
                                                 · subst e
                                                   simp (disch := omega) only [jset_k, jset_j, jset_same, true_and, and_true]
                                                   first | omega | simp | exact h
                                                 · simp (disch := omega) only [jset_k, jset_j, jset_same, true_and, and_true]
                                                   exact h
                                               · exact hI.2.2.1.2.2.2.2.2.2.1.fr (by omega) (fun k j a b => by show _ = M (1 + k) j; unfold cv; simp (disch := omega) only [jset_k, jset_j, jset_same, true_and, and_true]) (fun i a b => by simp (disch := omega) only [jset_k, jset_j, jset_same, true_and, and_true]) (fun i a b => by simp (disch := omega) only [jset_k, jset_j, jset_same, true_and, and_true])
                                               · exact hI.2.2.1.2.2.2.2.2.2.2.1.fr (by omega) (fun k j a b => by show _ = M (1 + k) j; unfold cv; simp (disch := omega) only [jset_k, jset_j, jset_same, true_and, and_true]) (fun i a b => by simp (disch := omega) only [jset_k, jset_j, jset_same, true_and, and_true])
                                               · exact hI.2.2.1.2.2.2.2.2.2.2.2.1.fr (fun k j a b => by show _ = M (1 + k) j; unfold cv; simp (disch := omega) only [jset_k, jset_j, jset_same, true_and, and_true]) (fun i a b => by simp (disch := omega) only [jset_k, jset_j, jset_same, true_and, and_true])
                                               · exact hI.2.2.1.2.2.2.2.2.2.2.2.2.1.fr (fun k j a b => by show _ = M (1 + k) j; unfold cv; simp (disch := omega) only [jset_k, jset_j, jset_same, true_and, and_true]) (fun i a b => by simp (disch := omega) only [jset_k, jset_j, jset_same, true_and, and_true])
                                               · exact hI.2.2.1.2.2.2.2.2.2.2.2.2.2.1.fr (by omega) (fun k j a b => by show _ = M (1 + k) j; unfold cv; simp (disch := omega) only [jset_k, jset_j, jset_same, true_and, and_true]) (fun i a b => by simp (disch := omega) only [jset_k, jset_j, jset_same, true_and, and_true])
                                               · exact hI.2.2.1.2.2.2.2.2.2.2.2.2.2.2.fr hI.2.1.2.2.2.2.2.2.2.2.2.2 (fun k j a b => by show _ = M (1 + k) j; unfold cv; simp (disch := omega) only [jset_k, jset_j, jset_same, true_and, and_true]) (fun i a b => by simp (disch := omega) only [jset_k, jset_j, jset_same, true_and, and_true])))
                                  · first
                                     | (exfalso; omega)
                                     | (skip
                                        refine e_bipush 78 dX12_put_76 (by decide) rfl ?_
                                        refine e_iret dX12_put_78 ?_
                                        first
                                          | (exact ⟨by omega, hI⟩)
                                          | (exfalso; omega)))))
                · dsimp only [jpush]
                  first
                   | (exfalso; omega)
                   | (skip
                      refine e_if_ne 33 36 dX12_put_30 (by decide) (by decide) rfl (fun h => absurd h (by decide)) (fun _ => ?_)
                      refine e_bipush 35 dX12_put_33 (by decide) rfl ?_
                      refine e_iret dX12_put_35 ?_
                      first
                        | (exact ⟨by omega, hI⟩)
                        | (exfalso; omega)))
          · dsimp only [jpush]
            first
             | (exfalso; omega)
             | (skip
                refine e_if_eq 13 33 dX12_put_10 (by decide) (by decide) rfl (fun _ => ?_) (fun h => absurd h (by decide))
                refine e_bipush 35 dX12_put_33 (by decide) rfl ?_
                refine e_iret dX12_put_35 ?_
                first
                  | (exact ⟨by omega, hI⟩)
                  | (exfalso; omega))
        · skip
          refine e_iload 78 dX11_put_76 rfl rfl ?_
          refine e_if_ge 81 84 dX11_put_78 (by omega) (by decide) rfl (fun b78 => ?_) (fun b78 => ?_)
          · skip
            refine e_aload_n (i := 3) 85 dX11_put_84 rfl rfl rfl ?_
            refine e_iload_n (i := 2) 86 dX11_put_85 rfl rfl rfl ?_
            refine e_puti (j := 5) 89 fl_11_262 dX11_put_86 (at_pledge (by omega) (by omega)) rfl rfl rfl (by omega) rfl ?_
            refine e_iload 91 dX11_put_89 rfl rfl ?_
            refine e_iret dX11_put_91 ?_
            refine mem_gen (P := fun M1 => jCt yX12_put cX12_put 3 (some .int) 3 [jR 928, jI pledge, jI rack] M1 (fun z2 M2 => _ = z2 ∧ Inv M2)) (fun M1 hM1 => ?_)
            have hA : M1 929 = M 929 := by rw [hM1]; simp (disch := omega) only [jset_row]
            have hT : M1 928 0 = 0 := by rw [hM1]; simp (disch := omega) only [jset_k]; exact hI.1
            refine jCt_of mt_yX12_put (Nat.le_of_ble_eq_true rfl) (fun X2 => ?_)
            refine e_aload_n (i := 0) 1 dX12_put_0 rfl rfl rfl ?_
            refine e_iconst 2 dX12_put_1 rfl ?_
            refine e_put0 (j := 0) 5 fl_12_1 dX12_put_2 at_928 rfl rfl rfl (by decide) (by first | exact hT | (simp (disch := omega) only [jset_k, jset_j, jset_same, true_and, and_true, hA]; exact hT)) rfl ?_
            refine e_aload_n (i := 0) 6 dX12_put_5 rfl rfl rfl ?_
            refine e_iload_n (i := 1) 7 dX12_put_6 rfl rfl rfl ?_
            refine e_callV 10 mt_yX12_isPledge mv_yX12_isPledge wd_1579 (by decide) dX12_put_7 at_928 jc_12 rfl rfl rfl (Nat.le_of_ble_eq_true rfl) (jroom (by decide)) rfl (m_isPledge (by (try simp (disch := omega) only [jset_k, jset_j, jset_same, true_and, and_true, hA]); omega) (fun w7 => ?_) (fun w7 => ?_))
            · dsimp only [jpush]
              (try simp (disch := omega) only [jset_k, jset_j, jset_same, true_and, and_true, hA] at w7)
              (try simp (disch := omega) only [jset_k, jset_j, jset_same, true_and, and_true, hA])
              first
               | (exfalso; omega)
               | (skip
                  refine e_if_eq 13 33 dX12_put_10 (by decide) (by decide) rfl (fun h => absurd h (by decide)) (fun _ => ?_)
                  refine e_iload_n (i := 2) 14 dX12_put_13 rfl rfl rfl ?_
                  refine e_i2l 15 dX12_put_14 (by omega) rfl ?_
                  refine e_lconst0 16 dX12_put_15 rfl ?_
                  refine e_aload_n (i := 0) 17 dX12_put_16 rfl rfl rfl ?_
                  refine e_getr (j := 1) 20 fl_12_13 dX12_put_17 at_928 rfl rfl tp_928_1 rfl ?_
                  refine e_sipush 23 dX12_put_20 (by decide) rfl ?_
                  refine e_iald 24 dX12_put_23 ar_929 (by decide) (by decide) rfl (fun r23 => ?_)
                  simp (disch := omega) only [jset_k, jset_j, jset_same, true_and, and_true, hA] at r23 ⊢
                  refine e_iconst 25 dX12_put_24 rfl ?_
                  refine e_isub 26 dX12_put_25 rfl ?_
                  refine e_i2l 27 dX12_put_26 (by omega) rfl ?_
                  refine e_callS 30 mt_yX12_within ms_yX12_within wd_1390 (by decide) dX12_put_27 rfl rfl (Nat.le_of_ble_eq_true rfl) (jroom (by decide)) rfl (m_within (by (try simp (disch := omega) only [jset_k, jset_j, jset_same, true_and, and_true, hA]); omega) (by (try simp (disch := omega) only [jset_k, jset_j, jset_same, true_and, and_true, hA]); omega) (by (try simp (disch := omega) only [jset_k, jset_j, jset_same, true_and, and_true, hA]); omega) (fun w27 => ?_) (fun w27 => ?_))
                  · dsimp only [jpush]
                    (try simp (disch := omega) only [jset_k, jset_j, jset_same, true_and, and_true, hA] at w27)
                    (try simp (disch := omega) only [jset_k, jset_j, jset_same, true_and, and_true, hA])
                    first
                     | (exfalso; omega)
                     | (skip
                        refine e_if_ne 33 36 dX12_put_30 (by decide) (by decide) rfl (fun _ => ?_) (fun h => absurd h (by decide))
                        refine e_aload_n (i := 0) 37 dX12_put_36 rfl rfl rfl ?_
                        refine e_getr (j := 1) 40 fl_12_13 dX12_put_37 at_928 rfl rfl tp_928_1 rfl ?_
                        refine e_sipush 43 dX12_put_40 (by decide) rfl ?_
                        refine e_iload_n (i := 1) 44 dX12_put_43 rfl rfl rfl ?_
                        refine e_iadd 45 dX12_put_44 rfl ?_
                        refine e_iald 46 dX12_put_45 ar_929 (by omega) (by omega) rfl (fun r45 => ?_)
                        simp (disch := omega) only [jset_k, jset_j, jset_same, true_and, and_true, hA] at r45 ⊢
                        refine e_if_ne 49 76 dX12_put_46 (by omega) (by decide) rfl (fun b46 => ?_) (fun b46 => ?_)
                        · first
                           | (exfalso; omega)
                           | (skip
                              refine e_bipush 78 dX12_put_76 (by decide) rfl ?_
                              refine e_iret dX12_put_78 ?_
                              first
                                | (exact ⟨by omega, hI⟩)
                                | (exfalso; omega)
                                | ((try subst hM1)
                                   refine ⟨by omega, ?_⟩
                                   refine hI.live ?_ ?_ ?_
                                   · repeat (first | exact Live.rf | refine Live.c ?_ (by omega) | refine Live.r ?_ (by omega) | refine Live.s ?_ (by omega))
                                   · refine ⟨?_, ?_, ?_, ?_, ?_, ?_, ?_, ?_, ?_, ?_, ?_⟩
                                     · exact hI.2.1.1.fr (fun i hi => by simp (disch := omega) only [jset_k, jset_j, jset_same, true_and, and_true])
                                     · exact hI.2.1.2.1.fr (fun i a b => by simp (disch := omega) only [jset_k, jset_j, jset_same, true_and, and_true])
                                     · exact hI.2.1.2.2.1.fr (fun i a b => by simp (disch := omega) only [jset_k, jset_j, jset_same, true_and, and_true])
                                     · exact hI.2.1.2.2.2.1.fr (by omega) (fun i a b => by simp (disch := omega) only [jset_k, jset_j, jset_same, true_and, and_true])
                                     · exact hI.2.1.2.2.2.2.1.fr (by omega) (fun i a b => by simp (disch := omega) only [jset_k, jset_j, jset_same, true_and, and_true]) (fun i a b => by simp (disch := omega) only [jset_k, jset_j, jset_same, true_and, and_true])
                                     · have hV2 := hV.2.2.2.2.2.1
                                       rw [← hQ] at hV2
                                       exact hV2
                                     · exact hI.2.1.2.2.2.2.2.2.1.fr (by omega) (by simp (disch := omega) only [jset_k, jset_j, jset_same, true_and, and_true]) (fun i a b => by simp (disch := omega) only [jset_k, jset_j, jset_same, true_and, and_true])
                                     · exact hI.2.1.2.2.2.2.2.2.2.1.fr (by omega) (fun i a b => by simp (disch := omega) only [jset_k, jset_j, jset_same, true_and, and_true]) (fun i a b => by simp (disch := omega) only [jset_k, jset_j, jset_same, true_and, and_true]) (by simp (disch := omega) only [jset_k, jset_j, jset_same, true_and, and_true]; omega)
                                     · exact hI.2.1.2.2.2.2.2.2.2.2.1.fr (by omega) (fun i a b => by simp (disch := omega) only [jset_k, jset_j, jset_same, true_and, and_true])
                                     · exact hI.2.1.2.2.2.2.2.2.2.2.2.1.fr (fun i a b => by simp (disch := omega) only [jset_k, jset_j, jset_same, true_and, and_true])
                                     · exact hI.2.1.2.2.2.2.2.2.2.2.2.2.fr (fun i a b => by simp (disch := omega) only [jset_k, jset_j, jset_same, true_and, and_true])
                                   · refine ⟨?_, ?_, ?_, ?_, ?_, ?_, ?_, ?_, ?_, ?_, ?_, ?_⟩
                                     · exact hI.2.2.1.1.fr (fun j => by show _ = M (1 + 0) j; unfold cv; simp (disch := omega) only [jset_k, jset_j, jset_same, true_and, and_true]) (fun i hi => by simp (disch := omega) only [jset_k, jset_j, jset_same, true_and, and_true])
                                     · exact hI.2.2.1.2.1.fr hI.2.1.2.1 (by omega) (fun k j a b => by show _ = M (1 + k) j; unfold cv; simp (disch := omega) only [jset_k, jset_j, jset_same, true_and, and_true]) (fun i a b => by simp (disch := omega) only [jset_k, jset_j, jset_same, true_and, and_true])
                                     · exact hI.2.2.1.2.2.1.fr hI.2.1.2.2.1 (by omega) (fun k j a b => by show _ = M (1 + k) j; unfold cv; simp (disch := omega) only [jset_k, jset_j, jset_same, true_and, and_true]) (fun i a b => by simp (disch := omega) only [jset_k, jset_j, jset_same, true_and, and_true])
                                     · exact hI.2.2.1.2.2.2.1.fr (by omega) (fun k j a b => by show _ = M (1 + k) j; unfold cv; simp (disch := omega) only [jset_k, jset_j, jset_same, true_and, and_true]) (fun i a b => by simp (disch := omega) only [jset_k, jset_j, jset_same, true_and, and_true])
                                     · exact hI.2.2.1.2.2.2.2.1.fr (by omega) (fun k j a b => by show _ = M (1 + k) j; unfold cv; simp (disch := omega) only [jset_k, jset_j, jset_same, true_and, and_true]) (fun i a b => by simp (disch := omega) only [jset_k, jset_j, jset_same, true_and, and_true]) (fun i a b => by simp (disch := omega) only [jset_k, jset_j, jset_same, true_and, and_true])
                                     · intro q h0 h1
                                       simp (disch := omega) only [jset_k, jset_j, jset_same, true_and, and_true] at h1
                                       simp only [cv1, Int.reduceAdd]
                                       have h := hC.pl h0 h1
                                       by_cases e : q = pledge
                                       · subst e
                                         simp (disch := omega) only [jset_k, jset_j, jset_same, true_and, and_true]
                                         first | omega | simp | exact h
                                       · simp (disch := omega) only [jset_k, jset_j, jset_same, true_and, and_true]
                                         exact h
                                     · exact hI.2.2.1.2.2.2.2.2.2.1.fr (by omega) (fun k j a b => by show _ = M (1 + k) j; unfold cv; simp (disch := omega) only [jset_k, jset_j, jset_same, true_and, and_true]) (fun i a b => by simp (disch := omega) only [jset_k, jset_j, jset_same, true_and, and_true]) (fun i a b => by simp (disch := omega) only [jset_k, jset_j, jset_same, true_and, and_true])
                                     · exact hI.2.2.1.2.2.2.2.2.2.2.1.fr (by omega) (fun k j a b => by show _ = M (1 + k) j; unfold cv; simp (disch := omega) only [jset_k, jset_j, jset_same, true_and, and_true]) (fun i a b => by simp (disch := omega) only [jset_k, jset_j, jset_same, true_and, and_true])
                                     · exact hI.2.2.1.2.2.2.2.2.2.2.2.1.fr (fun k j a b => by show _ = M (1 + k) j; unfold cv; simp (disch := omega) only [jset_k, jset_j, jset_same, true_and, and_true]) (fun i a b => by simp (disch := omega) only [jset_k, jset_j, jset_same, true_and, and_true])
                                     · exact hI.2.2.1.2.2.2.2.2.2.2.2.2.1.fr (fun k j a b => by show _ = M (1 + k) j; unfold cv; simp (disch := omega) only [jset_k, jset_j, jset_same, true_and, and_true]) (fun i a b => by simp (disch := omega) only [jset_k, jset_j, jset_same, true_and, and_true])
                                     · exact hI.2.2.1.2.2.2.2.2.2.2.2.2.2.1.fr (by omega) (fun k j a b => by show _ = M (1 + k) j; unfold cv; simp (disch := omega) only [jset_k, jset_j, jset_same, true_and, and_true]) (fun i a b => by simp (disch := omega) only [jset_k, jset_j, jset_same, true_and, and_true])
                                     · exact hI.2.2.1.2.2.2.2.2.2.2.2.2.2.2.fr hI.2.1.2.2.2.2.2.2.2.2.2.2 (fun k j a b => by show _ = M (1 + k) j; unfold cv; simp (disch := omega) only [jset_k, jset_j, jset_same, true_and, and_true]) (fun i a b => by simp (disch := omega) only [jset_k, jset_j, jset_same, true_and, and_true])))
                        · first
                           | (exfalso; omega)
                           | (skip
                              refine e_aload_n (i := 0) 50 dX12_put_49 rfl rfl rfl ?_
                              refine e_getr (j := 1) 53 fl_12_13 dX12_put_50 at_928 rfl rfl tp_928_1 rfl ?_
                              refine e_sipush 56 dX12_put_53 (by decide) rfl ?_
                              refine e_iload_n (i := 1) 57 dX12_put_56 rfl rfl rfl ?_
                              refine e_iadd 58 dX12_put_57 rfl ?_
                              refine e_iald 59 dX12_put_58 ar_929 (by omega) (by omega) rfl (fun r58 => ?_)
                              simp (disch := omega) only [jset_k, jset_j, jset_same, true_and, and_true, hA] at r58 ⊢
                              refine e_iload_n (i := 2) 60 dX12_put_59 rfl rfl rfl ?_
                              refine e_icmp_eq 63 76 dX12_put_60 (by omega) (by omega) (by decide) rfl (fun b60 => ?_) (fun b60 => ?_)
                              · first
                                 | (exfalso; omega)
                                 | (skip
                                    refine e_bipush 78 dX12_put_76 (by decide) rfl ?_
                                    refine e_iret dX12_put_78 ?_
                                    first
                                      | (exact ⟨by omega, hI⟩)
                                      | (exfalso; omega)
                                      | ((try subst hM1)
                                         refine ⟨by omega, ?_⟩
                                         refine hI.live ?_ ?_ ?_
                                         · repeat (first | exact Live.rf | refine Live.c ?_ (by omega) | refine Live.r ?_ (by omega) | refine Live.s ?_ (by omega))
                                         · refine ⟨?_, ?_, ?_, ?_, ?_, ?_, ?_, ?_, ?_, ?_, ?_⟩
                                           · exact hI.2.1.1.fr (fun i hi => by simp (disch := omega) only [jset_k, jset_j, jset_same, true_and, and_true])
                                           · exact hI.2.1.2.1.fr (fun i a b => by simp (disch := omega) only [jset_k, jset_j, jset_same, true_and, and_true])
                                           · exact hI.2.1.2.2.1.fr (fun i a b => by simp (disch := omega) only [jset_k, jset_j, jset_same, true_and, and_true])
                                           · exact hI.2.1.2.2.2.1.fr (by omega) (fun i a b => by simp (disch := omega) only [jset_k, jset_j, jset_same, true_and, and_true])
                                           · exact hI.2.1.2.2.2.2.1.fr (by omega) (fun i a b => by simp (disch := omega) only [jset_k, jset_j, jset_same, true_and, and_true]) (fun i a b => by simp (disch := omega) only [jset_k, jset_j, jset_same, true_and, and_true])
                                           · have hV2 := hV.2.2.2.2.2.1
                                             rw [← hQ] at hV2
                                             exact hV2
                                           · exact hI.2.1.2.2.2.2.2.2.1.fr (by omega) (by simp (disch := omega) only [jset_k, jset_j, jset_same, true_and, and_true]) (fun i a b => by simp (disch := omega) only [jset_k, jset_j, jset_same, true_and, and_true])
                                           · exact hI.2.1.2.2.2.2.2.2.2.1.fr (by omega) (fun i a b => by simp (disch := omega) only [jset_k, jset_j, jset_same, true_and, and_true]) (fun i a b => by simp (disch := omega) only [jset_k, jset_j, jset_same, true_and, and_true]) (by simp (disch := omega) only [jset_k, jset_j, jset_same, true_and, and_true]; omega)
                                           · exact hI.2.1.2.2.2.2.2.2.2.2.1.fr (by omega) (fun i a b => by simp (disch := omega) only [jset_k, jset_j, jset_same, true_and, and_true])
                                           · exact hI.2.1.2.2.2.2.2.2.2.2.2.1.fr (fun i a b => by simp (disch := omega) only [jset_k, jset_j, jset_same, true_and, and_true])
                                           · exact hI.2.1.2.2.2.2.2.2.2.2.2.2.fr (fun i a b => by simp (disch := omega) only [jset_k, jset_j, jset_same, true_and, and_true])
                                         · refine ⟨?_, ?_, ?_, ?_, ?_, ?_, ?_, ?_, ?_, ?_, ?_, ?_⟩
                                           · exact hI.2.2.1.1.fr (fun j => by show _ = M (1 + 0) j; unfold cv; simp (disch := omega) only [jset_k, jset_j, jset_same, true_and, and_true]) (fun i hi => by simp (disch := omega) only [jset_k, jset_j, jset_same, true_and, and_true])
                                           · exact hI.2.2.1.2.1.fr hI.2.1.2.1 (by omega) (fun k j a b => by show _ = M (1 + k) j; unfold cv; simp (disch := omega) only [jset_k, jset_j, jset_same, true_and, and_true]) (fun i a b => by simp (disch := omega) only [jset_k, jset_j, jset_same, true_and, and_true])
                                           · exact hI.2.2.1.2.2.1.fr hI.2.1.2.2.1 (by omega) (fun k j a b => by show _ = M (1 + k) j; unfold cv; simp (disch := omega) only [jset_k, jset_j, jset_same, true_and, and_true]) (fun i a b => by simp (disch := omega) only [jset_k, jset_j, jset_same, true_and, and_true])
                                           · exact hI.2.2.1.2.2.2.1.fr (by omega) (fun k j a b => by show _ = M (1 + k) j; unfold cv; simp (disch := omega) only [jset_k, jset_j, jset_same, true_and, and_true]) (fun i a b => by simp (disch := omega) only [jset_k, jset_j, jset_same, true_and, and_true])
                                           · exact hI.2.2.1.2.2.2.2.1.fr (by omega) (fun k j a b => by show _ = M (1 + k) j; unfold cv; simp (disch := omega) only [jset_k, jset_j, jset_same, true_and, and_true]) (fun i a b => by simp (disch := omega) only [jset_k, jset_j, jset_same, true_and, and_true]) (fun i a b => by simp (disch := omega) only [jset_k, jset_j, jset_same, true_and, and_true])
                                           · intro q h0 h1
                                             simp (disch := omega) only [jset_k, jset_j, jset_same, true_and, and_true] at h1
                                             simp only [cv1, Int.reduceAdd]
                                             have h := hC.pl h0 h1
                                             by_cases e : q = pledge
                                             · subst e
                                               simp (disch := omega) only [jset_k, jset_j, jset_same, true_and, and_true]
                                               first | omega | simp | exact h
                                             · simp (disch := omega) only [jset_k, jset_j, jset_same, true_and, and_true]
                                               exact h
                                           · exact hI.2.2.1.2.2.2.2.2.2.1.fr (by omega) (fun k j a b => by show _ = M (1 + k) j; unfold cv; simp (disch := omega) only [jset_k, jset_j, jset_same, true_and, and_true]) (fun i a b => by simp (disch := omega) only [jset_k, jset_j, jset_same, true_and, and_true]) (fun i a b => by simp (disch := omega) only [jset_k, jset_j, jset_same, true_and, and_true])
                                           · exact hI.2.2.1.2.2.2.2.2.2.2.1.fr (by omega) (fun k j a b => by show _ = M (1 + k) j; unfold cv; simp (disch := omega) only [jset_k, jset_j, jset_same, true_and, and_true]) (fun i a b => by simp (disch := omega) only [jset_k, jset_j, jset_same, true_and, and_true])
                                           · exact hI.2.2.1.2.2.2.2.2.2.2.2.1.fr (fun k j a b => by show _ = M (1 + k) j; unfold cv; simp (disch := omega) only [jset_k, jset_j, jset_same, true_and, and_true]) (fun i a b => by simp (disch := omega) only [jset_k, jset_j, jset_same, true_and, and_true])
                                           · exact hI.2.2.1.2.2.2.2.2.2.2.2.2.1.fr (fun k j a b => by show _ = M (1 + k) j; unfold cv; simp (disch := omega) only [jset_k, jset_j, jset_same, true_and, and_true]) (fun i a b => by simp (disch := omega) only [jset_k, jset_j, jset_same, true_and, and_true])
                                           · exact hI.2.2.1.2.2.2.2.2.2.2.2.2.2.1.fr (by omega) (fun k j a b => by show _ = M (1 + k) j; unfold cv; simp (disch := omega) only [jset_k, jset_j, jset_same, true_and, and_true]) (fun i a b => by simp (disch := omega) only [jset_k, jset_j, jset_same, true_and, and_true])
                                           · exact hI.2.2.1.2.2.2.2.2.2.2.2.2.2.2.fr hI.2.1.2.2.2.2.2.2.2.2.2.2 (fun k j a b => by show _ = M (1 + k) j; unfold cv; simp (disch := omega) only [jset_k, jset_j, jset_same, true_and, and_true]) (fun i a b => by simp (disch := omega) only [jset_k, jset_j, jset_same, true_and, and_true])))
                              · first
                                 | (exfalso; omega)
                                 | (skip
                                    refine e_aload_n (i := 0) 64 dX12_put_63 rfl rfl rfl ?_
                                    refine e_iload_n (i := 2) 65 dX12_put_64 rfl rfl rfl ?_
                                    refine e_callV 68 mt_yX12_leftOn mv_yX12_leftOn wd_1645 (by decide) dX12_put_65 at_928 jc_12 rfl rfl rfl (Nat.le_of_ble_eq_true rfl) (jroom (by decide)) rfl (m_leftOn (by simp (disch := omega) only [jset_k, jset_j, jset_same, true_and, and_true, hA]; exact hI.2.1) (by (try simp (disch := omega) only [jset_k, jset_j, jset_same, true_and, and_true, hA]); omega) ?_)
                                    dsimp only [jpush]
                                    (try simp (disch := omega) only [jset_k, jset_j, jset_same, true_and, and_true, hA])
                                    refine e_aload_n (i := 0) 69 dX12_put_68 rfl rfl rfl ?_
                                    refine e_iload_n (i := 1) 70 dX12_put_69 rfl rfl rfl ?_
                                    refine e_callV 73 mt_yX12_sizeOf mv_yX12_sizeOf wd_1649 (by decide) dX12_put_70 at_928 jc_12 rfl rfl rfl (Nat.le_of_ble_eq_true rfl) (jroom (by decide)) rfl (m_sizeOf (by (try simp (disch := omega) only [jset_k, jset_j, jset_same, true_and, and_true, hA]); omega) (by (try simp (disch := omega) only [jset_k, jset_j, jset_same, true_and, and_true, hA]); omega) ?_)
                                    dsimp only [jpush]
                                    (try simp (disch := omega) only [jset_k, jset_j, jset_same, true_and, and_true, hA])
                                    refine e_icmp_ge 76 79 dX12_put_73 (by omega) (by omega) (by decide) rfl (fun b73 => ?_) (fun b73 => ?_)
                                    · first
                                       | (exfalso; omega)
                                       | (skip
                                          refine e_aload_n (i := 0) 80 dX12_put_79 rfl rfl rfl ?_
                                          refine e_getr (j := 1) 83 fl_12_13 dX12_put_80 at_928 rfl rfl tp_928_1 rfl ?_
                                          refine e_sipush 86 dX12_put_83 (by decide) rfl ?_
                                          refine e_iload_n (i := 1) 87 dX12_put_86 rfl rfl rfl ?_
                                          refine e_iadd 88 dX12_put_87 rfl ?_
                                          refine e_iload_n (i := 2) 89 dX12_put_88 rfl rfl rfl ?_
                                          refine e_iast 90 dX12_put_89 ar_929 (by omega) (by omega) (by omega) rfl ?_
                                          have hP := put_left (a := M 929) (p := pledge) (r := rack) (by omega) (by omega) (by omega) (by omega) (by omega) (fun q q0 q1 q2 => by have := hC.plr q0 q2; omega) (M 929 709).toNat (by omega) (by omega)
                                          rw [if_pos (by omega)] at hP
                                          have hQ : jset M1 929 (950 + pledge) rack 929 = rset (M 929) (950 + pledge) rack := by rw [jset_929, hA]
                                          have hV := put_inv hC.1 (p := pledge) (r := rack) (by omega) (by omega) (by omega) (by omega) (by omega)
                                          refine e_aload_n (i := 0) 91 dX12_put_90 rfl rfl rfl ?_
                                          refine e_iload_n (i := 2) 92 dX12_put_91 rfl rfl rfl ?_
                                          refine e_callV 95 mt_yX12_leftOn mv_yX12_leftOn wd_1645 (by decide) dX12_put_92 at_928 jc_12 rfl rfl rfl (Nat.le_of_ble_eq_true rfl) (jroom (by decide)) rfl (m_leftOn (by rw [hQ]; exact hV) (by (try simp (disch := omega) only [jset_k, jset_j, jset_same, true_and, and_true, hA]); omega) ?_)
                                          dsimp only [jpush]
                                          (try simp (disch := omega) only [jset_k, jset_j, jset_same, true_and, and_true, hA])
                                          rw [hQ, hP]
                                          refine e_iret dX12_put_95 ?_
                                          first
                                            | (exact ⟨by omega, hI⟩)
                                            | (exfalso; omega)
                                            | ((try subst hM1)
                                               refine ⟨by omega, ?_⟩
                                               refine hI.live ?_ ?_ ?_
                                               · repeat (first | exact Live.rf | refine Live.c ?_ (by omega) | refine Live.r ?_ (by omega) | refine Live.s ?_ (by omega))
                                               · refine ⟨?_, ?_, ?_, ?_, ?_, ?_, ?_, ?_, ?_, ?_, ?_⟩
                                                 · exact hI.2.1.1.fr (fun i hi => by simp (disch := omega) only [jset_k, jset_j, jset_same, true_and, and_true])
                                                 · exact hI.2.1.2.1.fr (fun i a b => by simp (disch := omega) only [jset_k, jset_j, jset_same, true_and, and_true])
                                                 · exact hI.2.1.2.2.1.fr (fun i a b => by simp (disch := omega) only [jset_k, jset_j, jset_same, true_and, and_true])
                                                 · exact hI.2.1.2.2.2.1.fr (by omega) (fun i a b => by simp (disch := omega) only [jset_k, jset_j, jset_same, true_and, and_true])
                                                 · exact hI.2.1.2.2.2.2.1.fr (by omega) (fun i a b => by simp (disch := omega) only [jset_k, jset_j, jset_same, true_and, and_true]) (fun i a b => by simp (disch := omega) only [jset_k, jset_j, jset_same, true_and, and_true])
                                                 · have hV2 := hV.2.2.2.2.2.1
                                                   rw [← hQ] at hV2
                                                   exact hV2
                                                 · exact hI.2.1.2.2.2.2.2.2.1.fr (by omega) (by simp (disch := omega) only [jset_k, jset_j, jset_same, true_and, and_true]) (fun i a b => by simp (disch := omega) only [jset_k, jset_j, jset_same, true_and, and_true])
                                                 · exact hI.2.1.2.2.2.2.2.2.2.1.fr (by omega) (fun i a b => by simp (disch := omega) only [jset_k, jset_j, jset_same, true_and, and_true]) (fun i a b => by simp (disch := omega) only [jset_k, jset_j, jset_same, true_and, and_true]) (by simp (disch := omega) only [jset_k, jset_j, jset_same, true_and, and_true]; omega)
                                                 · exact hI.2.1.2.2.2.2.2.2.2.2.1.fr (by omega) (fun i a b => by simp (disch := omega) only [jset_k, jset_j, jset_same, true_and, and_true])
                                                 · exact hI.2.1.2.2.2.2.2.2.2.2.2.1.fr (fun i a b => by simp (disch := omega) only [jset_k, jset_j, jset_same, true_and, and_true])
                                                 · exact hI.2.1.2.2.2.2.2.2.2.2.2.2.fr (fun i a b => by simp (disch := omega) only [jset_k, jset_j, jset_same, true_and, and_true])
                                               · refine ⟨?_, ?_, ?_, ?_, ?_, ?_, ?_, ?_, ?_, ?_, ?_, ?_⟩
                                                 · exact hI.2.2.1.1.fr (fun j => by show _ = M (1 + 0) j; unfold cv; simp (disch := omega) only [jset_k, jset_j, jset_same, true_and, and_true]) (fun i hi => by simp (disch := omega) only [jset_k, jset_j, jset_same, true_and, and_true])
                                                 · exact hI.2.2.1.2.1.fr hI.2.1.2.1 (by omega) (fun k j a b => by show _ = M (1 + k) j; unfold cv; simp (disch := omega) only [jset_k, jset_j, jset_same, true_and, and_true]) (fun i a b => by simp (disch := omega) only [jset_k, jset_j, jset_same, true_and, and_true])
                                                 · exact hI.2.2.1.2.2.1.fr hI.2.1.2.2.1 (by omega) (fun k j a b => by show _ = M (1 + k) j; unfold cv; simp (disch := omega) only [jset_k, jset_j, jset_same, true_and, and_true]) (fun i a b => by simp (disch := omega) only [jset_k, jset_j, jset_same, true_and, and_true])
                                                 · exact hI.2.2.1.2.2.2.1.fr (by omega) (fun k j a b => by show _ = M (1 + k) j; unfold cv; simp (disch := omega) only [jset_k, jset_j, jset_same, true_and, and_true]) (fun i a b => by simp (disch := omega) only [jset_k, jset_j, jset_same, true_and, and_true])
                                                 · exact hI.2.2.1.2.2.2.2.1.fr (by omega) (fun k j a b => by show _ = M (1 + k) j; unfold cv; simp (disch := omega) only [jset_k, jset_j, jset_same, true_and, and_true]) (fun i a b => by simp (disch := omega) only [jset_k, jset_j, jset_same, true_and, and_true]) (fun i a b => by simp (disch := omega) only [jset_k, jset_j, jset_same, true_and, and_true])
                                                 · intro q h0 h1
                                                   simp (disch := omega) only [jset_k, jset_j, jset_same, true_and, and_true] at h1
                                                   simp only [cv1, Int.reduceAdd]
                                                   have h := hC.pl h0 h1
                                                   by_cases e : q = pledge
                                                   · subst e
                                                     simp (disch := omega) only [jset_k, jset_j, jset_same, true_and, and_true]
                                                     first | omega | simp | exact h
                                                   · simp (disch := omega) only [jset_k, jset_j, jset_same, true_and, and_true]
                                                     exact h
                                                 · exact hI.2.2.1.2.2.2.2.2.2.1.fr (by omega) (fun k j a b => by show _ = M (1 + k) j; unfold cv; simp (disch := omega) only [jset_k, jset_j, jset_same, true_and, and_true]) (fun i a b => by simp (disch := omega) only [jset_k, jset_j, jset_same, true_and, and_true]) (fun i a b => by simp (disch := omega) only [jset_k, jset_j, jset_same, true_and, and_true])
                                                 · exact hI.2.2.1.2.2.2.2.2.2.2.1.fr (by omega) (fun k j a b => by show _ = M (1 + k) j; unfold cv; simp (disch := omega) only [jset_k, jset_j, jset_same, true_and, and_true]) (fun i a b => by simp (disch := omega) only [jset_k, jset_j, jset_same, true_and, and_true])
                                                 · exact hI.2.2.1.2.2.2.2.2.2.2.2.1.fr (fun k j a b => by show _ = M (1 + k) j; unfold cv; simp (disch := omega) only [jset_k, jset_j, jset_same, true_and, and_true]) (fun i a b => by simp (disch := omega) only [jset_k, jset_j, jset_same, true_and, and_true])
                                                 · exact hI.2.2.1.2.2.2.2.2.2.2.2.2.1.fr (fun k j a b => by show _ = M (1 + k) j; unfold cv; simp (disch := omega) only [jset_k, jset_j, jset_same, true_and, and_true]) (fun i a b => by simp (disch := omega) only [jset_k, jset_j, jset_same, true_and, and_true])
                                                 · exact hI.2.2.1.2.2.2.2.2.2.2.2.2.2.1.fr (by omega) (fun k j a b => by show _ = M (1 + k) j; unfold cv; simp (disch := omega) only [jset_k, jset_j, jset_same, true_and, and_true]) (fun i a b => by simp (disch := omega) only [jset_k, jset_j, jset_same, true_and, and_true])
                                                 · exact hI.2.2.1.2.2.2.2.2.2.2.2.2.2.2.fr hI.2.1.2.2.2.2.2.2.2.2.2.2 (fun k j a b => by show _ = M (1 + k) j; unfold cv; simp (disch := omega) only [jset_k, jset_j, jset_same, true_and, and_true]) (fun i a b => by simp (disch := omega) only [jset_k, jset_j, jset_same, true_and, and_true])))
                                    · first
                                       | (exfalso; omega)
                                       | (skip
                                          refine e_bipush 78 dX12_put_76 (by decide) rfl ?_
                                          refine e_iret dX12_put_78 ?_
                                          first
                                            | (exact ⟨by omega, hI⟩)
                                            | (exfalso; omega)
                                            | ((try subst hM1)
                                               refine ⟨by omega, ?_⟩
                                               refine hI.live ?_ ?_ ?_
                                               · repeat (first | exact Live.rf | refine Live.c ?_ (by omega) | refine Live.r ?_ (by omega) | refine Live.s ?_ (by omega))
                                               · refine ⟨?_, ?_, ?_, ?_, ?_, ?_, ?_, ?_, ?_, ?_, ?_⟩
                                                 · exact hI.2.1.1.fr (fun i hi => by simp (disch := omega) only [jset_k, jset_j, jset_same, true_and, and_true])
                                                 · exact hI.2.1.2.1.fr (fun i a b => by simp (disch := omega) only [jset_k, jset_j, jset_same, true_and, and_true])
                                                 · exact hI.2.1.2.2.1.fr (fun i a b => by simp (disch := omega) only [jset_k, jset_j, jset_same, true_and, and_true])
                                                 · exact hI.2.1.2.2.2.1.fr (by omega) (fun i a b => by simp (disch := omega) only [jset_k, jset_j, jset_same, true_and, and_true])
                                                 · exact hI.2.1.2.2.2.2.1.fr (by omega) (fun i a b => by simp (disch := omega) only [jset_k, jset_j, jset_same, true_and, and_true]) (fun i a b => by simp (disch := omega) only [jset_k, jset_j, jset_same, true_and, and_true])
                                                 · have hV2 := hV.2.2.2.2.2.1
                                                   rw [← hQ] at hV2
                                                   exact hV2
                                                 · exact hI.2.1.2.2.2.2.2.2.1.fr (by omega) (by simp (disch := omega) only [jset_k, jset_j, jset_same, true_and, and_true]) (fun i a b => by simp (disch := omega) only [jset_k, jset_j, jset_same, true_and, and_true])
                                                 · exact hI.2.1.2.2.2.2.2.2.2.1.fr (by omega) (fun i a b => by simp (disch := omega) only [jset_k, jset_j, jset_same, true_and, and_true]) (fun i a b => by simp (disch := omega) only [jset_k, jset_j, jset_same, true_and, and_true]) (by simp (disch := omega) only [jset_k, jset_j, jset_same, true_and, and_true]; omega)
                                                 · exact hI.2.1.2.2.2.2.2.2.2.2.1.fr (by omega) (fun i a b => by simp (disch := omega) only [jset_k, jset_j, jset_same, true_and, and_true])
                                                 · exact hI.2.1.2.2.2.2.2.2.2.2.2.1.fr (fun i a b => by simp (disch := omega) only [jset_k, jset_j, jset_same, true_and, and_true])
                                                 · exact hI.2.1.2.2.2.2.2.2.2.2.2.2.fr (fun i a b => by simp (disch := omega) only [jset_k, jset_j, jset_same, true_and, and_true])
                                               · refine ⟨?_, ?_, ?_, ?_, ?_, ?_, ?_, ?_, ?_, ?_, ?_, ?_⟩
                                                 · exact hI.2.2.1.1.fr (fun j => by show _ = M (1 + 0) j; unfold cv; simp (disch := omega) only [jset_k, jset_j, jset_same, true_and, and_true]) (fun i hi => by simp (disch := omega) only [jset_k, jset_j, jset_same, true_and, and_true])
                                                 · exact hI.2.2.1.2.1.fr hI.2.1.2.1 (by omega) (fun k j a b => by show _ = M (1 + k) j; unfold cv; simp (disch := omega) only [jset_k, jset_j, jset_same, true_and, and_true]) (fun i a b => by simp (disch := omega) only [jset_k, jset_j, jset_same, true_and, and_true])
                                                 · exact hI.2.2.1.2.2.1.fr hI.2.1.2.2.1 (by omega) (fun k j a b => by show _ = M (1 + k) j; unfold cv; simp (disch := omega) only [jset_k, jset_j, jset_same, true_and, and_true]) (fun i a b => by simp (disch := omega) only [jset_k, jset_j, jset_same, true_and, and_true])
                                                 · exact hI.2.2.1.2.2.2.1.fr (by omega) (fun k j a b => by show _ = M (1 + k) j; unfold cv; simp (disch := omega) only [jset_k, jset_j, jset_same, true_and, and_true]) (fun i a b => by simp (disch := omega) only [jset_k, jset_j, jset_same, true_and, and_true])
                                                 · exact hI.2.2.1.2.2.2.2.1.fr (by omega) (fun k j a b => by show _ = M (1 + k) j; unfold cv; simp (disch := omega) only [jset_k, jset_j, jset_same, true_and, and_true]) (fun i a b => by simp (disch := omega) only [jset_k, jset_j, jset_same, true_and, and_true]) (fun i a b => by simp (disch := omega) only [jset_k, jset_j, jset_same, true_and, and_true])
                                                 · intro q h0 h1
                                                   simp (disch := omega) only [jset_k, jset_j, jset_same, true_and, and_true] at h1
                                                   simp only [cv1, Int.reduceAdd]
                                                   have h := hC.pl h0 h1
                                                   by_cases e : q = pledge
                                                   · subst e
                                                     simp (disch := omega) only [jset_k, jset_j, jset_same, true_and, and_true]
                                                     first | omega | simp | exact h
                                                   · simp (disch := omega) only [jset_k, jset_j, jset_same, true_and, and_true]
                                                     exact h
                                                 · exact hI.2.2.1.2.2.2.2.2.2.1.fr (by omega) (fun k j a b => by show _ = M (1 + k) j; unfold cv; simp (disch := omega) only [jset_k, jset_j, jset_same, true_and, and_true]) (fun i a b => by simp (disch := omega) only [jset_k, jset_j, jset_same, true_and, and_true]) (fun i a b => by simp (disch := omega) only [jset_k, jset_j, jset_same, true_and, and_true])
                                                 · exact hI.2.2.1.2.2.2.2.2.2.2.1.fr (by omega) (fun k j a b => by show _ = M (1 + k) j; unfold cv; simp (disch := omega) only [jset_k, jset_j, jset_same, true_and, and_true]) (fun i a b => by simp (disch := omega) only [jset_k, jset_j, jset_same, true_and, and_true])
                                                 · exact hI.2.2.1.2.2.2.2.2.2.2.2.1.fr (fun k j a b => by show _ = M (1 + k) j; unfold cv; simp (disch := omega) only [jset_k, jset_j, jset_same, true_and, and_true]) (fun i a b => by simp (disch := omega) only [jset_k, jset_j, jset_same, true_and, and_true])
                                                 · exact hI.2.2.1.2.2.2.2.2.2.2.2.2.1.fr (fun k j a b => by show _ = M (1 + k) j; unfold cv; simp (disch := omega) only [jset_k, jset_j, jset_same, true_and, and_true]) (fun i a b => by simp (disch := omega) only [jset_k, jset_j, jset_same, true_and, and_true])
                                                 · exact hI.2.2.1.2.2.2.2.2.2.2.2.2.2.1.fr (by omega) (fun k j a b => by show _ = M (1 + k) j; unfold cv; simp (disch := omega) only [jset_k, jset_j, jset_same, true_and, and_true]) (fun i a b => by simp (disch := omega) only [jset_k, jset_j, jset_same, true_and, and_true])
                                                 · exact hI.2.2.1.2.2.2.2.2.2.2.2.2.2.2.fr hI.2.1.2.2.2.2.2.2.2.2.2.2 (fun k j a b => by show _ = M (1 + k) j; unfold cv; simp (disch := omega) only [jset_k, jset_j, jset_same, true_and, and_true]) (fun i a b => by simp (disch := omega) only [jset_k, jset_j, jset_same, true_and, and_true]))))))
                  · dsimp only [jpush]
                    (try simp (disch := omega) only [jset_k, jset_j, jset_same, true_and, and_true, hA] at w27)
                    (try simp (disch := omega) only [jset_k, jset_j, jset_same, true_and, and_true, hA])
                    first
                     | (exfalso; omega)
                     | (skip
                        refine e_if_ne 33 36 dX12_put_30 (by decide) (by decide) rfl (fun h => absurd h (by decide)) (fun _ => ?_)
                        refine e_bipush 35 dX12_put_33 (by decide) rfl ?_
                        refine e_iret dX12_put_35 ?_
                        first
                          | (exact ⟨by omega, hI⟩)
                          | (exfalso; omega)
                          | ((try subst hM1)
                             refine ⟨by omega, ?_⟩
                             refine hI.live ?_ ?_ ?_
                             · repeat (first | exact Live.rf | refine Live.c ?_ (by omega) | refine Live.r ?_ (by omega) | refine Live.s ?_ (by omega))
                             · refine ⟨?_, ?_, ?_, ?_, ?_, ?_, ?_, ?_, ?_, ?_, ?_⟩
                               · exact hI.2.1.1.fr (fun i hi => by simp (disch := omega) only [jset_k, jset_j, jset_same, true_and, and_true])
                               · exact hI.2.1.2.1.fr (fun i a b => by simp (disch := omega) only [jset_k, jset_j, jset_same, true_and, and_true])
                               · exact hI.2.1.2.2.1.fr (fun i a b => by simp (disch := omega) only [jset_k, jset_j, jset_same, true_and, and_true])
                               · exact hI.2.1.2.2.2.1.fr (by omega) (fun i a b => by simp (disch := omega) only [jset_k, jset_j, jset_same, true_and, and_true])
                               · exact hI.2.1.2.2.2.2.1.fr (by omega) (fun i a b => by simp (disch := omega) only [jset_k, jset_j, jset_same, true_and, and_true]) (fun i a b => by simp (disch := omega) only [jset_k, jset_j, jset_same, true_and, and_true])
                               · have hV2 := hV.2.2.2.2.2.1
                                 rw [← hQ] at hV2
                                 exact hV2
                               · exact hI.2.1.2.2.2.2.2.2.1.fr (by omega) (by simp (disch := omega) only [jset_k, jset_j, jset_same, true_and, and_true]) (fun i a b => by simp (disch := omega) only [jset_k, jset_j, jset_same, true_and, and_true])
                               · exact hI.2.1.2.2.2.2.2.2.2.1.fr (by omega) (fun i a b => by simp (disch := omega) only [jset_k, jset_j, jset_same, true_and, and_true]) (fun i a b => by simp (disch := omega) only [jset_k, jset_j, jset_same, true_and, and_true]) (by simp (disch := omega) only [jset_k, jset_j, jset_same, true_and, and_true]; omega)
                               · exact hI.2.1.2.2.2.2.2.2.2.2.1.fr (by omega) (fun i a b => by simp (disch := omega) only [jset_k, jset_j, jset_same, true_and, and_true])
                               · exact hI.2.1.2.2.2.2.2.2.2.2.2.1.fr (fun i a b => by simp (disch := omega) only [jset_k, jset_j, jset_same, true_and, and_true])
                               · exact hI.2.1.2.2.2.2.2.2.2.2.2.2.fr (fun i a b => by simp (disch := omega) only [jset_k, jset_j, jset_same, true_and, and_true])
                             · refine ⟨?_, ?_, ?_, ?_, ?_, ?_, ?_, ?_, ?_, ?_, ?_, ?_⟩
                               · exact hI.2.2.1.1.fr (fun j => by show _ = M (1 + 0) j; unfold cv; simp (disch := omega) only [jset_k, jset_j, jset_same, true_and, and_true]) (fun i hi => by simp (disch := omega) only [jset_k, jset_j, jset_same, true_and, and_true])
                               · exact hI.2.2.1.2.1.fr hI.2.1.2.1 (by omega) (fun k j a b => by show _ = M (1 + k) j; unfold cv; simp (disch := omega) only [jset_k, jset_j, jset_same, true_and, and_true]) (fun i a b => by simp (disch := omega) only [jset_k, jset_j, jset_same, true_and, and_true])
                               · exact hI.2.2.1.2.2.1.fr hI.2.1.2.2.1 (by omega) (fun k j a b => by show _ = M (1 + k) j; unfold cv; simp (disch := omega) only [jset_k, jset_j, jset_same, true_and, and_true]) (fun i a b => by simp (disch := omega) only [jset_k, jset_j, jset_same, true_and, and_true])
                               · exact hI.2.2.1.2.2.2.1.fr (by omega) (fun k j a b => by show _ = M (1 + k) j; unfold cv; simp (disch := omega) only [jset_k, jset_j, jset_same, true_and, and_true]) (fun i a b => by simp (disch := omega) only [jset_k, jset_j, jset_same, true_and, and_true])
                               · exact hI.2.2.1.2.2.2.2.1.fr (by omega) (fun k j a b => by show _ = M (1 + k) j; unfold cv; simp (disch := omega) only [jset_k, jset_j, jset_same, true_and, and_true]) (fun i a b => by simp (disch := omega) only [jset_k, jset_j, jset_same, true_and, and_true]) (fun i a b => by simp (disch := omega) only [jset_k, jset_j, jset_same, true_and, and_true])
                               · intro q h0 h1
                                 simp (disch := omega) only [jset_k, jset_j, jset_same, true_and, and_true] at h1
                                 simp only [cv1, Int.reduceAdd]
                                 have h := hC.pl h0 h1
                                 by_cases e : q = pledge
                                 · subst e
                                   simp (disch := omega) only [jset_k, jset_j, jset_same, true_and, and_true]
                                   first | omega | simp | exact h
                                 · simp (disch := omega) only [jset_k, jset_j, jset_same, true_and, and_true]
                                   exact h
                               · exact hI.2.2.1.2.2.2.2.2.2.1.fr (by omega) (fun k j a b => by show _ = M (1 + k) j; unfold cv; simp (disch := omega) only [jset_k, jset_j, jset_same, true_and, and_true]) (fun i a b => by simp (disch := omega) only [jset_k, jset_j, jset_same, true_and, and_true]) (fun i a b => by simp (disch := omega) only [jset_k, jset_j, jset_same, true_and, and_true])
                               · exact hI.2.2.1.2.2.2.2.2.2.2.1.fr (by omega) (fun k j a b => by show _ = M (1 + k) j; unfold cv; simp (disch := omega) only [jset_k, jset_j, jset_same, true_and, and_true]) (fun i a b => by simp (disch := omega) only [jset_k, jset_j, jset_same, true_and, and_true])
                               · exact hI.2.2.1.2.2.2.2.2.2.2.2.1.fr (fun k j a b => by show _ = M (1 + k) j; unfold cv; simp (disch := omega) only [jset_k, jset_j, jset_same, true_and, and_true]) (fun i a b => by simp (disch := omega) only [jset_k, jset_j, jset_same, true_and, and_true])
                               · exact hI.2.2.1.2.2.2.2.2.2.2.2.2.1.fr (fun k j a b => by show _ = M (1 + k) j; unfold cv; simp (disch := omega) only [jset_k, jset_j, jset_same, true_and, and_true]) (fun i a b => by simp (disch := omega) only [jset_k, jset_j, jset_same, true_and, and_true])
                               · exact hI.2.2.1.2.2.2.2.2.2.2.2.2.2.1.fr (by omega) (fun k j a b => by show _ = M (1 + k) j; unfold cv; simp (disch := omega) only [jset_k, jset_j, jset_same, true_and, and_true]) (fun i a b => by simp (disch := omega) only [jset_k, jset_j, jset_same, true_and, and_true])
                               · exact hI.2.2.1.2.2.2.2.2.2.2.2.2.2.2.fr hI.2.1.2.2.2.2.2.2.2.2.2.2 (fun k j a b => by show _ = M (1 + k) j; unfold cv; simp (disch := omega) only [jset_k, jset_j, jset_same, true_and, and_true]) (fun i a b => by simp (disch := omega) only [jset_k, jset_j, jset_same, true_and, and_true]))))
            · dsimp only [jpush]
              (try simp (disch := omega) only [jset_k, jset_j, jset_same, true_and, and_true, hA] at w7)
              (try simp (disch := omega) only [jset_k, jset_j, jset_same, true_and, and_true, hA])
              first
               | (exfalso; omega)
               | (skip
                  refine e_if_eq 13 33 dX12_put_10 (by decide) (by decide) rfl (fun _ => ?_) (fun h => absurd h (by decide))
                  refine e_bipush 35 dX12_put_33 (by decide) rfl ?_
                  refine e_iret dX12_put_35 ?_
                  first
                    | (exact ⟨by omega, hI⟩)
                    | (exfalso; omega)
                    | ((try subst hM1)
                       refine ⟨by omega, ?_⟩
                       refine hI.live ?_ ?_ ?_
                       · repeat (first | exact Live.rf | refine Live.c ?_ (by omega) | refine Live.r ?_ (by omega) | refine Live.s ?_ (by omega))
                       · refine ⟨?_, ?_, ?_, ?_, ?_, ?_, ?_, ?_, ?_, ?_, ?_⟩
                         · exact hI.2.1.1.fr (fun i hi => by simp (disch := omega) only [jset_k, jset_j, jset_same, true_and, and_true])
                         · exact hI.2.1.2.1.fr (fun i a b => by simp (disch := omega) only [jset_k, jset_j, jset_same, true_and, and_true])
                         · exact hI.2.1.2.2.1.fr (fun i a b => by simp (disch := omega) only [jset_k, jset_j, jset_same, true_and, and_true])
                         · exact hI.2.1.2.2.2.1.fr (by omega) (fun i a b => by simp (disch := omega) only [jset_k, jset_j, jset_same, true_and, and_true])
                         · exact hI.2.1.2.2.2.2.1.fr (by omega) (fun i a b => by simp (disch := omega) only [jset_k, jset_j, jset_same, true_and, and_true]) (fun i a b => by simp (disch := omega) only [jset_k, jset_j, jset_same, true_and, and_true])
                         · have hV2 := hV.2.2.2.2.2.1
                           rw [← hQ] at hV2
                           exact hV2
                         · exact hI.2.1.2.2.2.2.2.2.1.fr (by omega) (by simp (disch := omega) only [jset_k, jset_j, jset_same, true_and, and_true]) (fun i a b => by simp (disch := omega) only [jset_k, jset_j, jset_same, true_and, and_true])
                         · exact hI.2.1.2.2.2.2.2.2.2.1.fr (by omega) (fun i a b => by simp (disch := omega) only [jset_k, jset_j, jset_same, true_and, and_true]) (fun i a b => by simp (disch := omega) only [jset_k, jset_j, jset_same, true_and, and_true]) (by simp (disch := omega) only [jset_k, jset_j, jset_same, true_and, and_true]; omega)
                         · exact hI.2.1.2.2.2.2.2.2.2.2.1.fr (by omega) (fun i a b => by simp (disch := omega) only [jset_k, jset_j, jset_same, true_and, and_true])
                         · exact hI.2.1.2.2.2.2.2.2.2.2.2.1.fr (fun i a b => by simp (disch := omega) only [jset_k, jset_j, jset_same, true_and, and_true])
                         · exact hI.2.1.2.2.2.2.2.2.2.2.2.2.fr (fun i a b => by simp (disch := omega) only [jset_k, jset_j, jset_same, true_and, and_true])
                       · refine ⟨?_, ?_, ?_, ?_, ?_, ?_, ?_, ?_, ?_, ?_, ?_, ?_⟩
                         · exact hI.2.2.1.1.fr (fun j => by show _ = M (1 + 0) j; unfold cv; simp (disch := omega) only [jset_k, jset_j, jset_same, true_and, and_true]) (fun i hi => by simp (disch := omega) only [jset_k, jset_j, jset_same, true_and, and_true])
                         · exact hI.2.2.1.2.1.fr hI.2.1.2.1 (by omega) (fun k j a b => by show _ = M (1 + k) j; unfold cv; simp (disch := omega) only [jset_k, jset_j, jset_same, true_and, and_true]) (fun i a b => by simp (disch := omega) only [jset_k, jset_j, jset_same, true_and, and_true])
                         · exact hI.2.2.1.2.2.1.fr hI.2.1.2.2.1 (by omega) (fun k j a b => by show _ = M (1 + k) j; unfold cv; simp (disch := omega) only [jset_k, jset_j, jset_same, true_and, and_true]) (fun i a b => by simp (disch := omega) only [jset_k, jset_j, jset_same, true_and, and_true])
                         · exact hI.2.2.1.2.2.2.1.fr (by omega) (fun k j a b => by show _ = M (1 + k) j; unfold cv; simp (disch := omega) only [jset_k, jset_j, jset_same, true_and, and_true]) (fun i a b => by simp (disch := omega) only [jset_k, jset_j, jset_same, true_and, and_true])
                         · exact hI.2.2.1.2.2.2.2.1.fr (by omega) (fun k j a b => by show _ = M (1 + k) j; unfold cv; simp (disch := omega) only [jset_k, jset_j, jset_same, true_and, and_true]) (fun i a b => by simp (disch := omega) only [jset_k, jset_j, jset_same, true_and, and_true]) (fun i a b => by simp (disch := omega) only [jset_k, jset_j, jset_same, true_and, and_true])
                         · intro q h0 h1
                           simp (disch := omega) only [jset_k, jset_j, jset_same, true_and, and_true] at h1
                           simp only [cv1, Int.reduceAdd]
                           have h := hC.pl h0 h1
                           by_cases e : q = pledge
                           · subst e
                             simp (disch := omega) only [jset_k, jset_j, jset_same, true_and, and_true]
                             first | omega | simp | exact h
                           · simp (disch := omega) only [jset_k, jset_j, jset_same, true_and, and_true]
                             exact h
                         · exact hI.2.2.1.2.2.2.2.2.2.1.fr (by omega) (fun k j a b => by show _ = M (1 + k) j; unfold cv; simp (disch := omega) only [jset_k, jset_j, jset_same, true_and, and_true]) (fun i a b => by simp (disch := omega) only [jset_k, jset_j, jset_same, true_and, and_true]) (fun i a b => by simp (disch := omega) only [jset_k, jset_j, jset_same, true_and, and_true])
                         · exact hI.2.2.1.2.2.2.2.2.2.2.1.fr (by omega) (fun k j a b => by show _ = M (1 + k) j; unfold cv; simp (disch := omega) only [jset_k, jset_j, jset_same, true_and, and_true]) (fun i a b => by simp (disch := omega) only [jset_k, jset_j, jset_same, true_and, and_true])
                         · exact hI.2.2.1.2.2.2.2.2.2.2.2.1.fr (fun k j a b => by show _ = M (1 + k) j; unfold cv; simp (disch := omega) only [jset_k, jset_j, jset_same, true_and, and_true]) (fun i a b => by simp (disch := omega) only [jset_k, jset_j, jset_same, true_and, and_true])
                         · exact hI.2.2.1.2.2.2.2.2.2.2.2.2.1.fr (fun k j a b => by show _ = M (1 + k) j; unfold cv; simp (disch := omega) only [jset_k, jset_j, jset_same, true_and, and_true]) (fun i a b => by simp (disch := omega) only [jset_k, jset_j, jset_same, true_and, and_true])
                         · exact hI.2.2.1.2.2.2.2.2.2.2.2.2.2.1.fr (by omega) (fun k j a b => by show _ = M (1 + k) j; unfold cv; simp (disch := omega) only [jset_k, jset_j, jset_same, true_and, and_true]) (fun i a b => by simp (disch := omega) only [jset_k, jset_j, jset_same, true_and, and_true])
                         · exact hI.2.2.1.2.2.2.2.2.2.2.2.2.2.2.fr hI.2.1.2.2.2.2.2.2.2.2.2.2 (fun k j a b => by show _ = M (1 + k) j; unfold cv; simp (disch := omega) only [jset_k, jset_j, jset_same, true_and, and_true]) (fun i a b => by simp (disch := omega) only [jset_k, jset_j, jset_same, true_and, and_true])))
          · skip
            refine e_bipush 83 dX11_put_81 (by decide) rfl ?_
            refine e_iret dX11_put_83 ?_
            refine jCt_of mt_yX12_put (Nat.le_of_ble_eq_true rfl) (fun X2 => ?_)
            refine e_aload_n (i := 0) 1 dX12_put_0 rfl rfl rfl ?_
            refine e_iconst 2 dX12_put_1 rfl ?_
            refine e_put0 (j := 0) 5 fl_12_1 dX12_put_2 at_928 rfl rfl rfl (by decide) hI.1 rfl ?_
            refine e_aload_n (i := 0) 6 dX12_put_5 rfl rfl rfl ?_
            refine e_iload_n (i := 1) 7 dX12_put_6 rfl rfl rfl ?_
            refine e_callV 10 mt_yX12_isPledge mv_yX12_isPledge wd_1579 (by decide) dX12_put_7 at_928 jc_12 rfl rfl rfl (Nat.le_of_ble_eq_true rfl) (jroom (by decide)) rfl (m_isPledge (by omega) (fun w7 => ?_) (fun w7 => ?_))
            · dsimp only [jpush]
              first
               | (exfalso; omega)
               | (skip
                  refine e_if_eq 13 33 dX12_put_10 (by decide) (by decide) rfl (fun h => absurd h (by decide)) (fun _ => ?_)
                  refine e_iload_n (i := 2) 14 dX12_put_13 rfl rfl rfl ?_
                  refine e_i2l 15 dX12_put_14 (by omega) rfl ?_
                  refine e_lconst0 16 dX12_put_15 rfl ?_
                  refine e_aload_n (i := 0) 17 dX12_put_16 rfl rfl rfl ?_
                  refine e_getr (j := 1) 20 fl_12_13 dX12_put_17 at_928 rfl rfl tp_928_1 rfl ?_
                  refine e_sipush 23 dX12_put_20 (by decide) rfl ?_
                  refine e_iald 24 dX12_put_23 ar_929 (by decide) (by decide) rfl (fun r23 => ?_)
                  refine e_iconst 25 dX12_put_24 rfl ?_
                  refine e_isub 26 dX12_put_25 rfl ?_
                  refine e_i2l 27 dX12_put_26 (by omega) rfl ?_
                  refine e_callS 30 mt_yX12_within ms_yX12_within wd_1390 (by decide) dX12_put_27 rfl rfl (Nat.le_of_ble_eq_true rfl) (jroom (by decide)) rfl (m_within (by omega) (by omega) (by omega) (fun w27 => ?_) (fun w27 => ?_))
                  · dsimp only [jpush]
                    first
                     | (exfalso; omega)
                     | (skip
                        refine e_if_ne 33 36 dX12_put_30 (by decide) (by decide) rfl (fun _ => ?_) (fun h => absurd h (by decide))
                        refine e_aload_n (i := 0) 37 dX12_put_36 rfl rfl rfl ?_
                        refine e_getr (j := 1) 40 fl_12_13 dX12_put_37 at_928 rfl rfl tp_928_1 rfl ?_
                        refine e_sipush 43 dX12_put_40 (by decide) rfl ?_
                        refine e_iload_n (i := 1) 44 dX12_put_43 rfl rfl rfl ?_
                        refine e_iadd 45 dX12_put_44 rfl ?_
                        refine e_iald 46 dX12_put_45 ar_929 (by omega) (by omega) rfl (fun r45 => ?_)
                        refine e_if_ne 49 76 dX12_put_46 (by omega) (by decide) rfl (fun b46 => ?_) (fun b46 => ?_)
                        · first
                           | (exfalso; omega)
                           | (skip
                              refine e_bipush 78 dX12_put_76 (by decide) rfl ?_
                              refine e_iret dX12_put_78 ?_
                              first
                                | (exact ⟨by omega, hI⟩)
                                | (exfalso; omega))
                        · first
                           | (exfalso; omega)
                           | (skip
                              refine e_aload_n (i := 0) 50 dX12_put_49 rfl rfl rfl ?_
                              refine e_getr (j := 1) 53 fl_12_13 dX12_put_50 at_928 rfl rfl tp_928_1 rfl ?_
                              refine e_sipush 56 dX12_put_53 (by decide) rfl ?_
                              refine e_iload_n (i := 1) 57 dX12_put_56 rfl rfl rfl ?_
                              refine e_iadd 58 dX12_put_57 rfl ?_
                              refine e_iald 59 dX12_put_58 ar_929 (by omega) (by omega) rfl (fun r58 => ?_)
                              refine e_iload_n (i := 2) 60 dX12_put_59 rfl rfl rfl ?_
                              refine e_icmp_eq 63 76 dX12_put_60 (by omega) (by omega) (by decide) rfl (fun b60 => ?_) (fun b60 => ?_)
                              · first
                                 | (exfalso; omega)
                                 | (skip
                                    refine e_bipush 78 dX12_put_76 (by decide) rfl ?_
                                    refine e_iret dX12_put_78 ?_
                                    first
                                      | (exact ⟨by omega, hI⟩)
                                      | (exfalso; omega))
                              · first
                                 | (exfalso; omega)
                                 | (skip
                                    refine e_aload_n (i := 0) 64 dX12_put_63 rfl rfl rfl ?_
                                    refine e_iload_n (i := 2) 65 dX12_put_64 rfl rfl rfl ?_
                                    refine e_callV 68 mt_yX12_leftOn mv_yX12_leftOn wd_1645 (by decide) dX12_put_65 at_928 jc_12 rfl rfl rfl (Nat.le_of_ble_eq_true rfl) (jroom (by decide)) rfl (m_leftOn hI.2.1 (by omega) ?_)
                                    dsimp only [jpush]
                                    refine e_aload_n (i := 0) 69 dX12_put_68 rfl rfl rfl ?_
                                    refine e_iload_n (i := 1) 70 dX12_put_69 rfl rfl rfl ?_
                                    refine e_callV 73 mt_yX12_sizeOf mv_yX12_sizeOf wd_1649 (by decide) dX12_put_70 at_928 jc_12 rfl rfl rfl (Nat.le_of_ble_eq_true rfl) (jroom (by decide)) rfl (m_sizeOf (by omega) (by omega) ?_)
                                    dsimp only [jpush]
                                    refine e_icmp_ge 76 79 dX12_put_73 (by omega) (by omega) (by decide) rfl (fun b73 => ?_) (fun b73 => ?_)
                                    · first
                                       | (exfalso; omega)
                                       | (skip
                                          refine e_aload_n (i := 0) 80 dX12_put_79 rfl rfl rfl ?_
                                          refine e_getr (j := 1) 83 fl_12_13 dX12_put_80 at_928 rfl rfl tp_928_1 rfl ?_
                                          refine e_sipush 86 dX12_put_83 (by decide) rfl ?_
                                          refine e_iload_n (i := 1) 87 dX12_put_86 rfl rfl rfl ?_
                                          refine e_iadd 88 dX12_put_87 rfl ?_
                                          refine e_iload_n (i := 2) 89 dX12_put_88 rfl rfl rfl ?_
                                          refine e_iast 90 dX12_put_89 ar_929 (by omega) (by omega) (by omega) rfl ?_
                                          have hP := put_left (a := M 929) (p := pledge) (r := rack) (by omega) (by omega) (by omega) (by omega) (by omega) (fun q q0 q1 q2 => by have := hC.plr q0 q2; omega) (M 929 709).toNat (by omega) (by omega)
                                          rw [if_pos (by omega)] at hP
                                          have hQ : jset M1 929 (950 + pledge) rack 929 = rset (M 929) (950 + pledge) rack := by rw [jset_929, hA]
                                          have hV := put_inv hC.1 (p := pledge) (r := rack) (by omega) (by omega) (by omega) (by omega) (by omega)
                                          refine e_aload_n (i := 0) 91 dX12_put_90 rfl rfl rfl ?_
                                          refine e_iload_n (i := 2) 92 dX12_put_91 rfl rfl rfl ?_
                                          refine e_callV 95 mt_yX12_leftOn mv_yX12_leftOn wd_1645 (by decide) dX12_put_92 at_928 jc_12 rfl rfl rfl (Nat.le_of_ble_eq_true rfl) (jroom (by decide)) rfl (m_leftOn (by rw [hQ]; exact hV) (by omega) ?_)
                                          dsimp only [jpush]
                                          rw [hQ, hP]
                                          refine e_iret dX12_put_95 ?_
                                          first
                                            | (exact ⟨by omega, hI⟩)
                                            | (exfalso; omega)
                                            | ((try subst hM1)
                                               refine ⟨by omega, ?_⟩
                                               refine hI.live ?_ ?_ ?_
                                               · repeat (first | exact Live.rf | refine Live.c ?_ (by omega) | refine Live.r ?_ (by omega) | refine Live.s ?_ (by omega))
                                               · refine ⟨?_, ?_, ?_, ?_, ?_, ?_, ?_, ?_, ?_, ?_, ?_⟩
                                                 · exact hI.2.1.1.fr (fun i hi => by simp (disch := omega) only [jset_k, jset_j, jset_same, true_and, and_true])
                                                 · exact hI.2.1.2.1.fr (fun i a b => by simp (disch := omega) only [jset_k, jset_j, jset_same, true_and, and_true])
                                                 · exact hI.2.1.2.2.1.fr (fun i a b => by simp (disch := omega) only [jset_k, jset_j, jset_same, true_and, and_true])
                                                 · exact hI.2.1.2.2.2.1.fr (by omega) (fun i a b => by simp (disch := omega) only [jset_k, jset_j, jset_same, true_and, and_true])
                                                 · exact hI.2.1.2.2.2.2.1.fr (by omega) (fun i a b => by simp (disch := omega) only [jset_k, jset_j, jset_same, true_and, and_true]) (fun i a b => by simp (disch := omega) only [jset_k, jset_j, jset_same, true_and, and_true])
                                                 · have hV2 := hV.2.2.2.2.2.1
                                                   rw [← hQ] at hV2
                                                   exact hV2
                                                 · exact hI.2.1.2.2.2.2.2.2.1.fr (by omega) (by simp (disch := omega) only [jset_k, jset_j, jset_same, true_and, and_true]) (fun i a b => by simp (disch := omega) only [jset_k, jset_j, jset_same, true_and, and_true])
                                                 · exact hI.2.1.2.2.2.2.2.2.2.1.fr (by omega) (fun i a b => by simp (disch := omega) only [jset_k, jset_j, jset_same, true_and, and_true]) (fun i a b => by simp (disch := omega) only [jset_k, jset_j, jset_same, true_and, and_true]) (by simp (disch := omega) only [jset_k, jset_j, jset_same, true_and, and_true]; omega)
                                                 · exact hI.2.1.2.2.2.2.2.2.2.2.1.fr (by omega) (fun i a b => by simp (disch := omega) only [jset_k, jset_j, jset_same, true_and, and_true])
                                                 · exact hI.2.1.2.2.2.2.2.2.2.2.2.1.fr (fun i a b => by simp (disch := omega) only [jset_k, jset_j, jset_same, true_and, and_true])
                                                 · exact hI.2.1.2.2.2.2.2.2.2.2.2.2.fr (fun i a b => by simp (disch := omega) only [jset_k, jset_j, jset_same, true_and, and_true])
                                               · refine ⟨?_, ?_, ?_, ?_, ?_, ?_, ?_, ?_, ?_, ?_, ?_, ?_⟩
                                                 · exact hI.2.2.1.1.fr (fun j => by show _ = M (1 + 0) j; unfold cv; simp (disch := omega) only [jset_k, jset_j, jset_same, true_and, and_true]) (fun i hi => by simp (disch := omega) only [jset_k, jset_j, jset_same, true_and, and_true])
                                                 · exact hI.2.2.1.2.1.fr hI.2.1.2.1 (by omega) (fun k j a b => by show _ = M (1 + k) j; unfold cv; simp (disch := omega) only [jset_k, jset_j, jset_same, true_and, and_true]) (fun i a b => by simp (disch := omega) only [jset_k, jset_j, jset_same, true_and, and_true])
                                                 · exact hI.2.2.1.2.2.1.fr hI.2.1.2.2.1 (by omega) (fun k j a b => by show _ = M (1 + k) j; unfold cv; simp (disch := omega) only [jset_k, jset_j, jset_same, true_and, and_true]) (fun i a b => by simp (disch := omega) only [jset_k, jset_j, jset_same, true_and, and_true])
                                                 · exact hI.2.2.1.2.2.2.1.fr (by omega) (fun k j a b => by show _ = M (1 + k) j; unfold cv; simp (disch := omega) only [jset_k, jset_j, jset_same, true_and, and_true]) (fun i a b => by simp (disch := omega) only [jset_k, jset_j, jset_same, true_and, and_true])
                                                 · exact hI.2.2.1.2.2.2.2.1.fr (by omega) (fun k j a b => by show _ = M (1 + k) j; unfold cv; simp (disch := omega) only [jset_k, jset_j, jset_same, true_and, and_true]) (fun i a b => by simp (disch := omega) only [jset_k, jset_j, jset_same, true_and, and_true]) (fun i a b => by simp (disch := omega) only [jset_k, jset_j, jset_same, true_and, and_true])
                                                 · intro q h0 h1
                                                   simp (disch := omega) only [jset_k, jset_j, jset_same, true_and, and_true] at h1
                                                   simp only [cv1, Int.reduceAdd]
                                                   have h := hC.pl h0 h1
                                                   by_cases e : q = pledge
                                                   · subst e
                                                     simp (disch := omega) only [jset_k, jset_j, jset_same, true_and, and_true]
                                                     first | omega | simp | exact h
                                                   · simp (disch := omega) only [jset_k, jset_j, jset_same, true_and, and_true]
                                                     exact h
                                                 · exact hI.2.2.1.2.2.2.2.2.2.1.fr (by omega) (fun k j a b => by show _ = M (1 + k) j; unfold cv; simp (disch := omega) only [jset_k, jset_j, jset_same, true_and, and_true]) (fun i a b => by simp (disch := omega) only [jset_k, jset_j, jset_same, true_and, and_true]) (fun i a b => by simp (disch := omega) only [jset_k, jset_j, jset_same, true_and, and_true])
                                                 · exact hI.2.2.1.2.2.2.2.2.2.2.1.fr (by omega) (fun k j a b => by show _ = M (1 + k) j; unfold cv; simp (disch := omega) only [jset_k, jset_j, jset_same, true_and, and_true]) (fun i a b => by simp (disch := omega) only [jset_k, jset_j, jset_same, true_and, and_true])
                                                 · exact hI.2.2.1.2.2.2.2.2.2.2.2.1.fr (fun k j a b => by show _ = M (1 + k) j; unfold cv; simp (disch := omega) only [jset_k, jset_j, jset_same, true_and, and_true]) (fun i a b => by simp (disch := omega) only [jset_k, jset_j, jset_same, true_and, and_true])
                                                 · exact hI.2.2.1.2.2.2.2.2.2.2.2.2.1.fr (fun k j a b => by show _ = M (1 + k) j; unfold cv; simp (disch := omega) only [jset_k, jset_j, jset_same, true_and, and_true]) (fun i a b => by simp (disch := omega) only [jset_k, jset_j, jset_same, true_and, and_true])
                                                 · exact hI.2.2.1.2.2.2.2.2.2.2.2.2.2.1.fr (by omega) (fun k j a b => by show _ = M (1 + k) j; unfold cv; simp (disch := omega) only [jset_k, jset_j, jset_same, true_and, and_true]) (fun i a b => by simp (disch := omega) only [jset_k, jset_j, jset_same, true_and, and_true])
                                                 · exact hI.2.2.1.2.2.2.2.2.2.2.2.2.2.2.fr hI.2.1.2.2.2.2.2.2.2.2.2.2 (fun k j a b => by show _ = M (1 + k) j; unfold cv; simp (disch := omega) only [jset_k, jset_j, jset_same, true_and, and_true]) (fun i a b => by simp (disch := omega) only [jset_k, jset_j, jset_same, true_and, and_true])))
                                    · first
                                       | (exfalso; omega)
                                       | (skip
                                          refine e_bipush 78 dX12_put_76 (by decide) rfl ?_
                                          refine e_iret dX12_put_78 ?_
                                          first
                                            | (exact ⟨by omega, hI⟩)
                                            | (exfalso; omega)))))
                  · dsimp only [jpush]
                    first
                     | (exfalso; omega)
                     | (skip
                        refine e_if_ne 33 36 dX12_put_30 (by decide) (by decide) rfl (fun h => absurd h (by decide)) (fun _ => ?_)
                        refine e_bipush 35 dX12_put_33 (by decide) rfl ?_
                        refine e_iret dX12_put_35 ?_
                        first
                          | (exact ⟨by omega, hI⟩)
                          | (exfalso; omega)))
            · dsimp only [jpush]
              first
               | (exfalso; omega)
               | (skip
                  refine e_if_eq 13 33 dX12_put_10 (by decide) (by decide) rfl (fun _ => ?_) (fun h => absurd h (by decide))
                  refine e_bipush 35 dX12_put_33 (by decide) rfl ?_
                  refine e_iret dX12_put_35 ?_
                  first
                    | (exact ⟨by omega, hI⟩)
                    | (exfalso; omega))
    · dsimp only [jpush]
      refine e_if_ne 22 25 dX11_put_19 (by decide) (by decide) rfl (fun h => absurd h (by decide)) (fun _ => ?_)
      refine e_bipush 24 dX11_put_22 (by decide) rfl ?_
      refine e_iret dX11_put_24 ?_
      refine jCt_of mt_yX12_put (Nat.le_of_ble_eq_true rfl) (fun X2 => ?_)
      refine e_aload_n (i := 0) 1 dX12_put_0 rfl rfl rfl ?_
      refine e_iconst 2 dX12_put_1 rfl ?_
      refine e_put0 (j := 0) 5 fl_12_1 dX12_put_2 at_928 rfl rfl rfl (by decide) hI.1 rfl ?_
      refine e_aload_n (i := 0) 6 dX12_put_5 rfl rfl rfl ?_
      refine e_iload_n (i := 1) 7 dX12_put_6 rfl rfl rfl ?_
      refine e_callV 10 mt_yX12_isPledge mv_yX12_isPledge wd_1579 (by decide) dX12_put_7 at_928 jc_12 rfl rfl rfl (Nat.le_of_ble_eq_true rfl) (jroom (by decide)) rfl (m_isPledge (by omega) (fun w7 => ?_) (fun w7 => ?_))
      · dsimp only [jpush]
        first
         | (exfalso; omega)
         | (skip
            refine e_if_eq 13 33 dX12_put_10 (by decide) (by decide) rfl (fun h => absurd h (by decide)) (fun _ => ?_)
            refine e_iload_n (i := 2) 14 dX12_put_13 rfl rfl rfl ?_
            refine e_i2l 15 dX12_put_14 (by omega) rfl ?_
            refine e_lconst0 16 dX12_put_15 rfl ?_
            refine e_aload_n (i := 0) 17 dX12_put_16 rfl rfl rfl ?_
            refine e_getr (j := 1) 20 fl_12_13 dX12_put_17 at_928 rfl rfl tp_928_1 rfl ?_
            refine e_sipush 23 dX12_put_20 (by decide) rfl ?_
            refine e_iald 24 dX12_put_23 ar_929 (by decide) (by decide) rfl (fun r23 => ?_)
            refine e_iconst 25 dX12_put_24 rfl ?_
            refine e_isub 26 dX12_put_25 rfl ?_
            refine e_i2l 27 dX12_put_26 (by omega) rfl ?_
            refine e_callS 30 mt_yX12_within ms_yX12_within wd_1390 (by decide) dX12_put_27 rfl rfl (Nat.le_of_ble_eq_true rfl) (jroom (by decide)) rfl (m_within (by omega) (by omega) (by omega) (fun w27 => ?_) (fun w27 => ?_))
            · dsimp only [jpush]
              first
               | (exfalso; omega)
               | (skip
                  refine e_if_ne 33 36 dX12_put_30 (by decide) (by decide) rfl (fun _ => ?_) (fun h => absurd h (by decide))
                  refine e_aload_n (i := 0) 37 dX12_put_36 rfl rfl rfl ?_
                  refine e_getr (j := 1) 40 fl_12_13 dX12_put_37 at_928 rfl rfl tp_928_1 rfl ?_
                  refine e_sipush 43 dX12_put_40 (by decide) rfl ?_
                  refine e_iload_n (i := 1) 44 dX12_put_43 rfl rfl rfl ?_
                  refine e_iadd 45 dX12_put_44 rfl ?_
                  refine e_iald 46 dX12_put_45 ar_929 (by omega) (by omega) rfl (fun r45 => ?_)
                  refine e_if_ne 49 76 dX12_put_46 (by omega) (by decide) rfl (fun b46 => ?_) (fun b46 => ?_)
                  · first
                     | (exfalso; omega)
                     | (skip
                        refine e_bipush 78 dX12_put_76 (by decide) rfl ?_
                        refine e_iret dX12_put_78 ?_
                        first
                          | (exact ⟨by omega, hI⟩)
                          | (exfalso; omega))
                  · first
                     | (exfalso; omega)
                     | (skip
                        refine e_aload_n (i := 0) 50 dX12_put_49 rfl rfl rfl ?_
                        refine e_getr (j := 1) 53 fl_12_13 dX12_put_50 at_928 rfl rfl tp_928_1 rfl ?_
                        refine e_sipush 56 dX12_put_53 (by decide) rfl ?_
                        refine e_iload_n (i := 1) 57 dX12_put_56 rfl rfl rfl ?_
                        refine e_iadd 58 dX12_put_57 rfl ?_
                        refine e_iald 59 dX12_put_58 ar_929 (by omega) (by omega) rfl (fun r58 => ?_)
                        refine e_iload_n (i := 2) 60 dX12_put_59 rfl rfl rfl ?_
                        refine e_icmp_eq 63 76 dX12_put_60 (by omega) (by omega) (by decide) rfl (fun b60 => ?_) (fun b60 => ?_)
                        · first
                           | (exfalso; omega)
                           | (skip
                              refine e_bipush 78 dX12_put_76 (by decide) rfl ?_
                              refine e_iret dX12_put_78 ?_
                              first
                                | (exact ⟨by omega, hI⟩)
                                | (exfalso; omega))
                        · first
                           | (exfalso; omega)
                           | (skip
                              refine e_aload_n (i := 0) 64 dX12_put_63 rfl rfl rfl ?_
                              refine e_iload_n (i := 2) 65 dX12_put_64 rfl rfl rfl ?_
                              refine e_callV 68 mt_yX12_leftOn mv_yX12_leftOn wd_1645 (by decide) dX12_put_65 at_928 jc_12 rfl rfl rfl (Nat.le_of_ble_eq_true rfl) (jroom (by decide)) rfl (m_leftOn hI.2.1 (by omega) ?_)
                              dsimp only [jpush]
                              refine e_aload_n (i := 0) 69 dX12_put_68 rfl rfl rfl ?_
                              refine e_iload_n (i := 1) 70 dX12_put_69 rfl rfl rfl ?_
                              refine e_callV 73 mt_yX12_sizeOf mv_yX12_sizeOf wd_1649 (by decide) dX12_put_70 at_928 jc_12 rfl rfl rfl (Nat.le_of_ble_eq_true rfl) (jroom (by decide)) rfl (m_sizeOf (by omega) (by omega) ?_)
                              dsimp only [jpush]
                              refine e_icmp_ge 76 79 dX12_put_73 (by omega) (by omega) (by decide) rfl (fun b73 => ?_) (fun b73 => ?_)
                              · first
                                 | (exfalso; omega)
                                 | (skip
                                    refine e_aload_n (i := 0) 80 dX12_put_79 rfl rfl rfl ?_
                                    refine e_getr (j := 1) 83 fl_12_13 dX12_put_80 at_928 rfl rfl tp_928_1 rfl ?_
                                    refine e_sipush 86 dX12_put_83 (by decide) rfl ?_
                                    refine e_iload_n (i := 1) 87 dX12_put_86 rfl rfl rfl ?_
                                    refine e_iadd 88 dX12_put_87 rfl ?_
                                    refine e_iload_n (i := 2) 89 dX12_put_88 rfl rfl rfl ?_
                                    refine e_iast 90 dX12_put_89 ar_929 (by omega) (by omega) (by omega) rfl ?_
                                    have hP := put_left (a := M 929) (p := pledge) (r := rack) (by omega) (by omega) (by omega) (by omega) (by omega) (fun q q0 q1 q2 => by have := hC.plr q0 q2; omega) (M 929 709).toNat (by omega) (by omega)
                                    rw [if_pos (by omega)] at hP
                                    have hQ : jset M1 929 (950 + pledge) rack 929 = rset (M 929) (950 + pledge) rack := by rw [jset_929, hA]
                                    have hV := put_inv hC.1 (p := pledge) (r := rack) (by omega) (by omega) (by omega) (by omega) (by omega)
                                    refine e_aload_n (i := 0) 91 dX12_put_90 rfl rfl rfl ?_
                                    refine e_iload_n (i := 2) 92 dX12_put_91 rfl rfl rfl ?_
                                    refine e_callV 95 mt_yX12_leftOn mv_yX12_leftOn wd_1645 (by decide) dX12_put_92 at_928 jc_12 rfl rfl rfl (Nat.le_of_ble_eq_true rfl) (jroom (by decide)) rfl (m_leftOn (by rw [hQ]; exact hV) (by omega) ?_)
                                    dsimp only [jpush]
                                    rw [hQ, hP]
                                    refine e_iret dX12_put_95 ?_
                                    first
                                      | (exact ⟨by omega, hI⟩)
                                      | (exfalso; omega)
                                      | ((try subst hM1)
                                         refine ⟨by omega, ?_⟩
                                         refine hI.live ?_ ?_ ?_
                                         · repeat (first | exact Live.rf | refine Live.c ?_ (by omega) | refine Live.r ?_ (by omega) | refine Live.s ?_ (by omega))
                                         · refine ⟨?_, ?_, ?_, ?_, ?_, ?_, ?_, ?_, ?_, ?_, ?_⟩
                                           · exact hI.2.1.1.fr (fun i hi => by simp (disch := omega) only [jset_k, jset_j, jset_same, true_and, and_true])
                                           · exact hI.2.1.2.1.fr (fun i a b => by simp (disch := omega) only [jset_k, jset_j, jset_same, true_and, and_true])
                                           · exact hI.2.1.2.2.1.fr (fun i a b => by simp (disch := omega) only [jset_k, jset_j, jset_same, true_and, and_true])
                                           · exact hI.2.1.2.2.2.1.fr (by omega) (fun i a b => by simp (disch := omega) only [jset_k, jset_j, jset_same, true_and, and_true])
                                           · exact hI.2.1.2.2.2.2.1.fr (by omega) (fun i a b => by simp (disch := omega) only [jset_k, jset_j, jset_same, true_and, and_true]) (fun i a b => by simp (disch := omega) only [jset_k, jset_j, jset_same, true_and, and_true])
                                           · have hV2 := hV.2.2.2.2.2.1
                                             rw [← hQ] at hV2
                                             exact hV2
                                           · exact hI.2.1.2.2.2.2.2.2.1.fr (by omega) (by simp (disch := omega) only [jset_k, jset_j, jset_same, true_and, and_true]) (fun i a b => by simp (disch := omega) only [jset_k, jset_j, jset_same, true_and, and_true])
                                           · exact hI.2.1.2.2.2.2.2.2.2.1.fr (by omega) (fun i a b => by simp (disch := omega) only [jset_k, jset_j, jset_same, true_and, and_true]) (fun i a b => by simp (disch := omega) only [jset_k, jset_j, jset_same, true_and, and_true]) (by simp (disch := omega) only [jset_k, jset_j, jset_same, true_and, and_true]; omega)
                                           · exact hI.2.1.2.2.2.2.2.2.2.2.1.fr (by omega) (fun i a b => by simp (disch := omega) only [jset_k, jset_j, jset_same, true_and, and_true])
                                           · exact hI.2.1.2.2.2.2.2.2.2.2.2.1.fr (fun i a b => by simp (disch := omega) only [jset_k, jset_j, jset_same, true_and, and_true])
                                           · exact hI.2.1.2.2.2.2.2.2.2.2.2.2.fr (fun i a b => by simp (disch := omega) only [jset_k, jset_j, jset_same, true_and, and_true])
                                         · refine ⟨?_, ?_, ?_, ?_, ?_, ?_, ?_, ?_, ?_, ?_, ?_, ?_⟩
                                           · exact hI.2.2.1.1.fr (fun j => by show _ = M (1 + 0) j; unfold cv; simp (disch := omega) only [jset_k, jset_j, jset_same, true_and, and_true]) (fun i hi => by simp (disch := omega) only [jset_k, jset_j, jset_same, true_and, and_true])
                                           · exact hI.2.2.1.2.1.fr hI.2.1.2.1 (by omega) (fun k j a b => by show _ = M (1 + k) j; unfold cv; simp (disch := omega) only [jset_k, jset_j, jset_same, true_and, and_true]) (fun i a b => by simp (disch := omega) only [jset_k, jset_j, jset_same, true_and, and_true])
                                           · exact hI.2.2.1.2.2.1.fr hI.2.1.2.2.1 (by omega) (fun k j a b => by show _ = M (1 + k) j; unfold cv; simp (disch := omega) only [jset_k, jset_j, jset_same, true_and, and_true]) (fun i a b => by simp (disch := omega) only [jset_k, jset_j, jset_same, true_and, and_true])
                                           · exact hI.2.2.1.2.2.2.1.fr (by omega) (fun k j a b => by show _ = M (1 + k) j; unfold cv; simp (disch := omega) only [jset_k, jset_j, jset_same, true_and, and_true]) (fun i a b => by simp (disch := omega) only [jset_k, jset_j, jset_same, true_and, and_true])
                                           · exact hI.2.2.1.2.2.2.2.1.fr (by omega) (fun k j a b => by show _ = M (1 + k) j; unfold cv; simp (disch := omega) only [jset_k, jset_j, jset_same, true_and, and_true]) (fun i a b => by simp (disch := omega) only [jset_k, jset_j, jset_same, true_and, and_true]) (fun i a b => by simp (disch := omega) only [jset_k, jset_j, jset_same, true_and, and_true])
                                           · intro q h0 h1
                                             simp (disch := omega) only [jset_k, jset_j, jset_same, true_and, and_true] at h1
                                             simp only [cv1, Int.reduceAdd]
                                             have h := hC.pl h0 h1
                                             by_cases e : q = pledge
                                             · subst e
                                               simp (disch := omega) only [jset_k, jset_j, jset_same, true_and, and_true]
                                               first | omega | simp | exact h
                                             · simp (disch := omega) only [jset_k, jset_j, jset_same, true_and, and_true]
                                               exact h
                                           · exact hI.2.2.1.2.2.2.2.2.2.1.fr (by omega) (fun k j a b => by show _ = M (1 + k) j; unfold cv; simp (disch := omega) only [jset_k, jset_j, jset_same, true_and, and_true]) (fun i a b => by simp (disch := omega) only [jset_k, jset_j, jset_same, true_and, and_true]) (fun i a b => by simp (disch := omega) only [jset_k, jset_j, jset_same, true_and, and_true])
                                           · exact hI.2.2.1.2.2.2.2.2.2.2.1.fr (by omega) (fun k j a b => by show _ = M (1 + k) j; unfold cv; simp (disch := omega) only [jset_k, jset_j, jset_same, true_and, and_true]) (fun i a b => by simp (disch := omega) only [jset_k, jset_j, jset_same, true_and, and_true])
                                           · exact hI.2.2.1.2.2.2.2.2.2.2.2.1.fr (fun k j a b => by show _ = M (1 + k) j; unfold cv; simp (disch := omega) only [jset_k, jset_j, jset_same, true_and, and_true]) (fun i a b => by simp (disch := omega) only [jset_k, jset_j, jset_same, true_and, and_true])
                                           · exact hI.2.2.1.2.2.2.2.2.2.2.2.2.1.fr (fun k j a b => by show _ = M (1 + k) j; unfold cv; simp (disch := omega) only [jset_k, jset_j, jset_same, true_and, and_true]) (fun i a b => by simp (disch := omega) only [jset_k, jset_j, jset_same, true_and, and_true])
                                           · exact hI.2.2.1.2.2.2.2.2.2.2.2.2.2.1.fr (by omega) (fun k j a b => by show _ = M (1 + k) j; unfold cv; simp (disch := omega) only [jset_k, jset_j, jset_same, true_and, and_true]) (fun i a b => by simp (disch := omega) only [jset_k, jset_j, jset_same, true_and, and_true])
                                           · exact hI.2.2.1.2.2.2.2.2.2.2.2.2.2.2.fr hI.2.1.2.2.2.2.2.2.2.2.2.2 (fun k j a b => by show _ = M (1 + k) j; unfold cv; simp (disch := omega) only [jset_k, jset_j, jset_same, true_and, and_true]) (fun i a b => by simp (disch := omega) only [jset_k, jset_j, jset_same, true_and, and_true])))
                              · first
                                 | (exfalso; omega)
                                 | (skip
                                    refine e_bipush 78 dX12_put_76 (by decide) rfl ?_
                                    refine e_iret dX12_put_78 ?_
                                    first
                                      | (exact ⟨by omega, hI⟩)
                                      | (exfalso; omega)))))
            · dsimp only [jpush]
              first
               | (exfalso; omega)
               | (skip
                  refine e_if_ne 33 36 dX12_put_30 (by decide) (by decide) rfl (fun h => absurd h (by decide)) (fun _ => ?_)
                  refine e_bipush 35 dX12_put_33 (by decide) rfl ?_
                  refine e_iret dX12_put_35 ?_
                  first
                    | (exact ⟨by omega, hI⟩)
                    | (exfalso; omega)))
      · dsimp only [jpush]
        first
         | (exfalso; omega)
         | (skip
            refine e_if_eq 13 33 dX12_put_10 (by decide) (by decide) rfl (fun _ => ?_) (fun h => absurd h (by decide))
            refine e_bipush 35 dX12_put_33 (by decide) rfl ?_
            refine e_iret dX12_put_35 ?_
            first
              | (exact ⟨by omega, hI⟩)
              | (exfalso; omega))
  · dsimp only [jpush]
    refine e_if_eq 11 22 dX11_put_8 (by decide) (by decide) rfl (fun _ => ?_) (fun h => absurd h (by decide))
    refine e_bipush 24 dX11_put_22 (by decide) rfl ?_
    refine e_iret dX11_put_24 ?_
    refine jCt_of mt_yX12_put (Nat.le_of_ble_eq_true rfl) (fun X2 => ?_)
    refine e_aload_n (i := 0) 1 dX12_put_0 rfl rfl rfl ?_
    refine e_iconst 2 dX12_put_1 rfl ?_
    refine e_put0 (j := 0) 5 fl_12_1 dX12_put_2 at_928 rfl rfl rfl (by decide) hI.1 rfl ?_
    refine e_aload_n (i := 0) 6 dX12_put_5 rfl rfl rfl ?_
    refine e_iload_n (i := 1) 7 dX12_put_6 rfl rfl rfl ?_
    refine e_callV 10 mt_yX12_isPledge mv_yX12_isPledge wd_1579 (by decide) dX12_put_7 at_928 jc_12 rfl rfl rfl (Nat.le_of_ble_eq_true rfl) (jroom (by decide)) rfl (m_isPledge (by omega) (fun w7 => ?_) (fun w7 => ?_))
    · dsimp only [jpush]
      first
       | (exfalso; omega)
       | (skip
          refine e_if_eq 13 33 dX12_put_10 (by decide) (by decide) rfl (fun h => absurd h (by decide)) (fun _ => ?_)
          refine e_iload_n (i := 2) 14 dX12_put_13 rfl rfl rfl ?_
          refine e_i2l 15 dX12_put_14 (by omega) rfl ?_
          refine e_lconst0 16 dX12_put_15 rfl ?_
          refine e_aload_n (i := 0) 17 dX12_put_16 rfl rfl rfl ?_
          refine e_getr (j := 1) 20 fl_12_13 dX12_put_17 at_928 rfl rfl tp_928_1 rfl ?_
          refine e_sipush 23 dX12_put_20 (by decide) rfl ?_
          refine e_iald 24 dX12_put_23 ar_929 (by decide) (by decide) rfl (fun r23 => ?_)
          refine e_iconst 25 dX12_put_24 rfl ?_
          refine e_isub 26 dX12_put_25 rfl ?_
          refine e_i2l 27 dX12_put_26 (by omega) rfl ?_
          refine e_callS 30 mt_yX12_within ms_yX12_within wd_1390 (by decide) dX12_put_27 rfl rfl (Nat.le_of_ble_eq_true rfl) (jroom (by decide)) rfl (m_within (by omega) (by omega) (by omega) (fun w27 => ?_) (fun w27 => ?_))
          · dsimp only [jpush]
            first
             | (exfalso; omega)
             | (skip
                refine e_if_ne 33 36 dX12_put_30 (by decide) (by decide) rfl (fun _ => ?_) (fun h => absurd h (by decide))
                refine e_aload_n (i := 0) 37 dX12_put_36 rfl rfl rfl ?_
                refine e_getr (j := 1) 40 fl_12_13 dX12_put_37 at_928 rfl rfl tp_928_1 rfl ?_
                refine e_sipush 43 dX12_put_40 (by decide) rfl ?_
                refine e_iload_n (i := 1) 44 dX12_put_43 rfl rfl rfl ?_
                refine e_iadd 45 dX12_put_44 rfl ?_
                refine e_iald 46 dX12_put_45 ar_929 (by omega) (by omega) rfl (fun r45 => ?_)
                refine e_if_ne 49 76 dX12_put_46 (by omega) (by decide) rfl (fun b46 => ?_) (fun b46 => ?_)
                · first
                   | (exfalso; omega)
                   | (skip
                      refine e_bipush 78 dX12_put_76 (by decide) rfl ?_
                      refine e_iret dX12_put_78 ?_
                      first
                        | (exact ⟨by omega, hI⟩)
                        | (exfalso; omega))
                · first
                   | (exfalso; omega)
                   | (skip
                      refine e_aload_n (i := 0) 50 dX12_put_49 rfl rfl rfl ?_
                      refine e_getr (j := 1) 53 fl_12_13 dX12_put_50 at_928 rfl rfl tp_928_1 rfl ?_
                      refine e_sipush 56 dX12_put_53 (by decide) rfl ?_
                      refine e_iload_n (i := 1) 57 dX12_put_56 rfl rfl rfl ?_
                      refine e_iadd 58 dX12_put_57 rfl ?_
                      refine e_iald 59 dX12_put_58 ar_929 (by omega) (by omega) rfl (fun r58 => ?_)
                      refine e_iload_n (i := 2) 60 dX12_put_59 rfl rfl rfl ?_
                      refine e_icmp_eq 63 76 dX12_put_60 (by omega) (by omega) (by decide) rfl (fun b60 => ?_) (fun b60 => ?_)
                      · first
                         | (exfalso; omega)
                         | (skip
                            refine e_bipush 78 dX12_put_76 (by decide) rfl ?_
                            refine e_iret dX12_put_78 ?_
                            first
                              | (exact ⟨by omega, hI⟩)
                              | (exfalso; omega))
                      · first
                         | (exfalso; omega)
                         | (skip
                            refine e_aload_n (i := 0) 64 dX12_put_63 rfl rfl rfl ?_
                            refine e_iload_n (i := 2) 65 dX12_put_64 rfl rfl rfl ?_
                            refine e_callV 68 mt_yX12_leftOn mv_yX12_leftOn wd_1645 (by decide) dX12_put_65 at_928 jc_12 rfl rfl rfl (Nat.le_of_ble_eq_true rfl) (jroom (by decide)) rfl (m_leftOn hI.2.1 (by omega) ?_)
                            dsimp only [jpush]
                            refine e_aload_n (i := 0) 69 dX12_put_68 rfl rfl rfl ?_
                            refine e_iload_n (i := 1) 70 dX12_put_69 rfl rfl rfl ?_
                            refine e_callV 73 mt_yX12_sizeOf mv_yX12_sizeOf wd_1649 (by decide) dX12_put_70 at_928 jc_12 rfl rfl rfl (Nat.le_of_ble_eq_true rfl) (jroom (by decide)) rfl (m_sizeOf (by omega) (by omega) ?_)
                            dsimp only [jpush]
                            refine e_icmp_ge 76 79 dX12_put_73 (by omega) (by omega) (by decide) rfl (fun b73 => ?_) (fun b73 => ?_)
                            · first
                               | (exfalso; omega)
                               | (skip
                                  refine e_aload_n (i := 0) 80 dX12_put_79 rfl rfl rfl ?_
                                  refine e_getr (j := 1) 83 fl_12_13 dX12_put_80 at_928 rfl rfl tp_928_1 rfl ?_
                                  refine e_sipush 86 dX12_put_83 (by decide) rfl ?_
                                  refine e_iload_n (i := 1) 87 dX12_put_86 rfl rfl rfl ?_
                                  refine e_iadd 88 dX12_put_87 rfl ?_
                                  refine e_iload_n (i := 2) 89 dX12_put_88 rfl rfl rfl ?_
                                  refine e_iast 90 dX12_put_89 ar_929 (by omega) (by omega) (by omega) rfl ?_
                                  have hP := put_left (a := M 929) (p := pledge) (r := rack) (by omega) (by omega) (by omega) (by omega) (by omega) (fun q q0 q1 q2 => by have := hC.plr q0 q2; omega) (M 929 709).toNat (by omega) (by omega)
                                  rw [if_pos (by omega)] at hP
                                  have hQ : jset M1 929 (950 + pledge) rack 929 = rset (M 929) (950 + pledge) rack := by rw [jset_929, hA]
                                  have hV := put_inv hC.1 (p := pledge) (r := rack) (by omega) (by omega) (by omega) (by omega) (by omega)
                                  refine e_aload_n (i := 0) 91 dX12_put_90 rfl rfl rfl ?_
                                  refine e_iload_n (i := 2) 92 dX12_put_91 rfl rfl rfl ?_
                                  refine e_callV 95 mt_yX12_leftOn mv_yX12_leftOn wd_1645 (by decide) dX12_put_92 at_928 jc_12 rfl rfl rfl (Nat.le_of_ble_eq_true rfl) (jroom (by decide)) rfl (m_leftOn (by rw [hQ]; exact hV) (by omega) ?_)
                                  dsimp only [jpush]
                                  rw [hQ, hP]
                                  refine e_iret dX12_put_95 ?_
                                  first
                                    | (exact ⟨by omega, hI⟩)
                                    | (exfalso; omega)
                                    | ((try subst hM1)
                                       refine ⟨by omega, ?_⟩
                                       refine hI.live ?_ ?_ ?_
                                       · repeat (first | exact Live.rf | refine Live.c ?_ (by omega) | refine Live.r ?_ (by omega) | refine Live.s ?_ (by omega))
                                       · refine ⟨?_, ?_, ?_, ?_, ?_, ?_, ?_, ?_, ?_, ?_, ?_⟩
                                         · exact hI.2.1.1.fr (fun i hi => by simp (disch := omega) only [jset_k, jset_j, jset_same, true_and, and_true])
                                         · exact hI.2.1.2.1.fr (fun i a b => by simp (disch := omega) only [jset_k, jset_j, jset_same, true_and, and_true])
                                         · exact hI.2.1.2.2.1.fr (fun i a b => by simp (disch := omega) only [jset_k, jset_j, jset_same, true_and, and_true])
                                         · exact hI.2.1.2.2.2.1.fr (by omega) (fun i a b => by simp (disch := omega) only [jset_k, jset_j, jset_same, true_and, and_true])
                                         · exact hI.2.1.2.2.2.2.1.fr (by omega) (fun i a b => by simp (disch := omega) only [jset_k, jset_j, jset_same, true_and, and_true]) (fun i a b => by simp (disch := omega) only [jset_k, jset_j, jset_same, true_and, and_true])
                                         · have hV2 := hV.2.2.2.2.2.1
                                           rw [← hQ] at hV2
                                           exact hV2
                                         · exact hI.2.1.2.2.2.2.2.2.1.fr (by omega) (by simp (disch := omega) only [jset_k, jset_j, jset_same, true_and, and_true]) (fun i a b => by simp (disch := omega) only [jset_k, jset_j, jset_same, true_and, and_true])
                                         · exact hI.2.1.2.2.2.2.2.2.2.1.fr (by omega) (fun i a b => by simp (disch := omega) only [jset_k, jset_j, jset_same, true_and, and_true]) (fun i a b => by simp (disch := omega) only [jset_k, jset_j, jset_same, true_and, and_true]) (by simp (disch := omega) only [jset_k, jset_j, jset_same, true_and, and_true]; omega)
                                         · exact hI.2.1.2.2.2.2.2.2.2.2.1.fr (by omega) (fun i a b => by simp (disch := omega) only [jset_k, jset_j, jset_same, true_and, and_true])
                                         · exact hI.2.1.2.2.2.2.2.2.2.2.2.1.fr (fun i a b => by simp (disch := omega) only [jset_k, jset_j, jset_same, true_and, and_true])
                                         · exact hI.2.1.2.2.2.2.2.2.2.2.2.2.fr (fun i a b => by simp (disch := omega) only [jset_k, jset_j, jset_same, true_and, and_true])
                                       · refine ⟨?_, ?_, ?_, ?_, ?_, ?_, ?_, ?_, ?_, ?_, ?_, ?_⟩
                                         · exact hI.2.2.1.1.fr (fun j => by show _ = M (1 + 0) j; unfold cv; simp (disch := omega) only [jset_k, jset_j, jset_same, true_and, and_true]) (fun i hi => by simp (disch := omega) only [jset_k, jset_j, jset_same, true_and, and_true])
                                         · exact hI.2.2.1.2.1.fr hI.2.1.2.1 (by omega) (fun k j a b => by show _ = M (1 + k) j; unfold cv; simp (disch := omega) only [jset_k, jset_j, jset_same, true_and, and_true]) (fun i a b => by simp (disch := omega) only [jset_k, jset_j, jset_same, true_and, and_true])
                                         · exact hI.2.2.1.2.2.1.fr hI.2.1.2.2.1 (by omega) (fun k j a b => by show _ = M (1 + k) j; unfold cv; simp (disch := omega) only [jset_k, jset_j, jset_same, true_and, and_true]) (fun i a b => by simp (disch := omega) only [jset_k, jset_j, jset_same, true_and, and_true])
                                         · exact hI.2.2.1.2.2.2.1.fr (by omega) (fun k j a b => by show _ = M (1 + k) j; unfold cv; simp (disch := omega) only [jset_k, jset_j, jset_same, true_and, and_true]) (fun i a b => by simp (disch := omega) only [jset_k, jset_j, jset_same, true_and, and_true])
                                         · exact hI.2.2.1.2.2.2.2.1.fr (by omega) (fun k j a b => by show _ = M (1 + k) j; unfold cv; simp (disch := omega) only [jset_k, jset_j, jset_same, true_and, and_true]) (fun i a b => by simp (disch := omega) only [jset_k, jset_j, jset_same, true_and, and_true]) (fun i a b => by simp (disch := omega) only [jset_k, jset_j, jset_same, true_and, and_true])
                                         · intro q h0 h1
                                           simp (disch := omega) only [jset_k, jset_j, jset_same, true_and, and_true] at h1
                                           simp only [cv1, Int.reduceAdd]
                                           have h := hC.pl h0 h1
                                           by_cases e : q = pledge
                                           · subst e
                                             simp (disch := omega) only [jset_k, jset_j, jset_same, true_and, and_true]
                                             first | omega | simp | exact h
                                           · simp (disch := omega) only [jset_k, jset_j, jset_same, true_and, and_true]
                                             exact h
                                         · exact hI.2.2.1.2.2.2.2.2.2.1.fr (by omega) (fun k j a b => by show _ = M (1 + k) j; unfold cv; simp (disch := omega) only [jset_k, jset_j, jset_same, true_and, and_true]) (fun i a b => by simp (disch := omega) only [jset_k, jset_j, jset_same, true_and, and_true]) (fun i a b => by simp (disch := omega) only [jset_k, jset_j, jset_same, true_and, and_true])
                                         · exact hI.2.2.1.2.2.2.2.2.2.2.1.fr (by omega) (fun k j a b => by show _ = M (1 + k) j; unfold cv; simp (disch := omega) only [jset_k, jset_j, jset_same, true_and, and_true]) (fun i a b => by simp (disch := omega) only [jset_k, jset_j, jset_same, true_and, and_true])
                                         · exact hI.2.2.1.2.2.2.2.2.2.2.2.1.fr (fun k j a b => by show _ = M (1 + k) j; unfold cv; simp (disch := omega) only [jset_k, jset_j, jset_same, true_and, and_true]) (fun i a b => by simp (disch := omega) only [jset_k, jset_j, jset_same, true_and, and_true])
                                         · exact hI.2.2.1.2.2.2.2.2.2.2.2.2.1.fr (fun k j a b => by show _ = M (1 + k) j; unfold cv; simp (disch := omega) only [jset_k, jset_j, jset_same, true_and, and_true]) (fun i a b => by simp (disch := omega) only [jset_k, jset_j, jset_same, true_and, and_true])
                                         · exact hI.2.2.1.2.2.2.2.2.2.2.2.2.2.1.fr (by omega) (fun k j a b => by show _ = M (1 + k) j; unfold cv; simp (disch := omega) only [jset_k, jset_j, jset_same, true_and, and_true]) (fun i a b => by simp (disch := omega) only [jset_k, jset_j, jset_same, true_and, and_true])
                                         · exact hI.2.2.1.2.2.2.2.2.2.2.2.2.2.2.fr hI.2.1.2.2.2.2.2.2.2.2.2.2 (fun k j a b => by show _ = M (1 + k) j; unfold cv; simp (disch := omega) only [jset_k, jset_j, jset_same, true_and, and_true]) (fun i a b => by simp (disch := omega) only [jset_k, jset_j, jset_same, true_and, and_true])))
                            · first
                               | (exfalso; omega)
                               | (skip
                                  refine e_bipush 78 dX12_put_76 (by decide) rfl ?_
                                  refine e_iret dX12_put_78 ?_
                                  first
                                    | (exact ⟨by omega, hI⟩)
                                    | (exfalso; omega)))))
          · dsimp only [jpush]
            first
             | (exfalso; omega)
             | (skip
                refine e_if_ne 33 36 dX12_put_30 (by decide) (by decide) rfl (fun h => absurd h (by decide)) (fun _ => ?_)
                refine e_bipush 35 dX12_put_33 (by decide) rfl ?_
                refine e_iret dX12_put_35 ?_
                first
                  | (exact ⟨by omega, hI⟩)
                  | (exfalso; omega)))
    · dsimp only [jpush]
      first
       | (exfalso; omega)
       | (skip
          refine e_if_eq 13 33 dX12_put_10 (by decide) (by decide) rfl (fun _ => ?_) (fun h => absurd h (by decide))
          refine e_bipush 35 dX12_put_33 (by decide) rfl ?_
          refine e_iret dX12_put_35 ?_
          first
            | (exact ⟨by omega, hI⟩)
            | (exfalso; omega))

