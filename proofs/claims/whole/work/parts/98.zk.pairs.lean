/-! TEXTS *** the class: text -/
theorem c_readLaw2 {M : jM} {n : Int} {Q : Int → jM → Prop} (hM : CM M n) (hv : -2147483648 ≤ M 928 10 ∧ M 928 10 ≤ 2147483647) (hf : n ≤ M 883 1 ∧ M 883 1 ≤ 400) (h91 : M 891 0 = 0) (h1 : ∀ W : jM, CTk M W n (txZ M n 0) → (txZ M n 0).2.2.2.2.1 = 0 → CLw W (txZ M n 0) → Q 1 W) (h0 : ∀ W : jM, CTk M W n (txZ M n 0) → (txZ M n 0).2.2.2.2.1 ≠ 0 → Q 0 W) : jCt yX6_readLaw cX6_readLaw 3 (some .boolean) 8 [jR 882, jI n] M Q := by
  refine c_readLaw hM hv hf h91 (fun W hW hL => ?_)
  by_cases c : (txZ M n 0).2.2.2.2.1 = 0
  · rw [if_pos c]
    exact h1 W hW c (hL c)
  · rw [if_neg c]
    exact h0 W hW c
theorem c_readLooks2 {M : jM} {n : Int} {Q : Int → jM → Prop} (hM : CM M n) (hv : -2147483648 ≤ M 928 10 ∧ M 928 10 ≤ 2147483647) (hf : n ≤ M 883 1 ∧ M 883 1 ≤ 400) (h91 : M 891 0 = 0) (h1 : ∀ W : jM, CTk M W n (txZ M n 1) → (txZ M n 1).2.2.2.2.1 = 0 → CK W (txZ M n 1) (txZ M n 1).2.2.2.2.2.2.2.1 → Q 1 W) (h0 : ∀ W : jM, CTk M W n (txZ M n 1) → (txZ M n 1).2.2.2.2.1 ≠ 0 → Q 0 W) : jCt yX6_readLooks cX6_readLooks 3 (some .boolean) 43 [jR 882, jI n] M Q := by
  refine c_readLooks hM hv hf h91 (fun W hW hL => ?_)
  by_cases c : (txZ M n 1).2.2.2.2.1 = 0
  · rw [if_pos c]
    exact h1 W hW c hL
  · rw [if_neg c]
    exact h0 W hW c
theorem lk_890 : jLk 890 := ⟨at_890, ⟨tp_890_2, ar_891⟩, ⟨tp_890_3, ar_892⟩, tp_890_4, ar_893⟩
theorem lk_12 : jLk 12 := ⟨at_12, ⟨tp_12_2, ar_13⟩, ⟨tp_12_3, ar_14⟩, tp_12_4, ar_15⟩
theorem c_text {what n : Int} {M : jM} {Q : Int → jM → Prop} (hI : Inv M) (h91 : M 891 0 = 0) (hwh : -2147483648 ≤ what ∧ what ≤ 2147483647) (hn0 : -2147483648 ≤ n ∧ n ≤ 2147483647) (h2 : what < 0 ∨ 1 < what → Q (-2) M) (h3 : (0 ≤ what ∧ what ≤ 1) ∧ (n < 0 ∨ M 928 5 < n) → Q (-3) M) (hbad : (0 ≤ what ∧ what ≤ 1) ∧ 0 ≤ n ∧ n ≤ M 928 5 → (-2147483648 ≤ M 928 10 ∧ M 928 10 ≤ 2147483647) → ∀ W : jM, CTk M W n (txZ M n what) → (txZ M n what).2.2.2.2.1 ≠ 0 → Q (-10 - (txZ M n what).2.2.2.2.1) W) (hlaw : what = 0 → 0 ≤ n ∧ n ≤ M 928 5 → (-2147483648 ≤ M 928 10 ∧ M 928 10 ≤ 2147483647) → ∀ W : jM, CTk M W n (txZ M n 0) → (txZ M n 0).2.2.2.2.1 = 0 → CLw W (txZ M n 0) → Q ((txZ M n 0).2.2.2.2.2.2.2.2.2 31) (mv W (RLw 2) (2 - 885))) (hlook : what = 1 → 0 ≤ n ∧ n ≤ M 928 5 → (-2147483648 ≤ M 928 10 ∧ M 928 10 ≤ 2147483647) → ∀ W : jM, CTk M W n (txZ M n 1) → (txZ M n 1).2.2.2.2.1 = 0 → CK W (txZ M n 1) (txZ M n 1).2.2.2.2.2.2.2.1 → Q ((txZ M n 1).2.2.2.2.2.2.2.2.2 65) (mv W (RLk (W 890 1) 12) (12 - 890))) : jCt yX11_text cX11_text 4 (some .int) 44 [jR 0, jI what, jI n] M Q := by
  refine jCt_of mt_yX11_text (Nat.le_of_ble_eq_true rfl) (fun X => ?_)
  have hT := hI.2.2.2.1
  have h83 := hT.1
  have h5 := hT.2.1
  refine e_ok (fun hok => ?_)
  have hv := (hok 928 10).2 (by decide +kernel)
  refine e_iload_n (i := 1) 1 dX11_text_0 rfl rfl rfl ?_
  refine e_if_eq 4 12 dX11_text_1 (by omega) (by decide) rfl (fun b1 => ?_) (fun b1 => ?_)
  · first
     | (exfalso; omega)
     | (skip
        refine e_iload_n (i := 2) 13 dX11_text_12 rfl rfl rfl ?_
        refine e_iconst 14 dX11_text_13 rfl ?_
        refine e_aload_n (i := 0) 15 dX11_text_14 rfl rfl rfl ?_
        refine e_getr (j := 3) 18 fl_11_27 dX11_text_15 at_0 rfl rfl tp_0_3 rfl ?_
        refine e_getr (j := 0) 21 fl_11_45 dX11_text_18 at_882 rfl rfl tp_882_0 rfl ?_
        refine e_geti (j := 1) 24 fl_11_49 dX11_text_21 at_883 (by decide) rfl rfl (fun r21 => ?_)
        refine e_callS 27 mt_yX11_within ms_yX11_within wd_531 (by decide) dX11_text_24 rfl rfl (Nat.le_of_ble_eq_true rfl) (jroom (by decide)) rfl (c_within (by omega) (by omega) (by omega) (fun w24 => ?_) (fun w24 => ?_))
        · dsimp only [jpush]
          first
           | (exfalso; omega)
           | (skip
              refine e_if_ne 30 33 dX11_text_27 (by decide) (by decide) rfl (fun _ => ?_) (fun h => absurd h (by decide))
              have hM : CM M n := ⟨by omega, fun i a b => hT.2.2 i a (by omega)⟩
              refine e_iload_n (i := 1) 34 dX11_text_33 rfl rfl rfl ?_
              refine e_if_ne 37 48 dX11_text_34 (by omega) (by decide) rfl (fun b34 => ?_) (fun b34 => ?_)
              · first
                 | (exfalso; omega)
                 | (skip
                    refine e_aload_n (i := 0) 49 dX11_text_48 rfl rfl rfl ?_
                    refine e_getr (j := 3) 52 fl_11_27 dX11_text_49 at_0 rfl rfl tp_0_3 rfl ?_
                    refine e_iload_n (i := 2) 53 dX11_text_52 rfl rfl rfl ?_
                    refine e_callV 56 mt_yX6_readLooks mv_yX6_readLooks wd_652 (by decide) dX11_text_53 at_882 jc_6 rfl rfl rfl (Nat.le_of_ble_eq_true rfl) (jroom (by decide)) rfl (c_readLooks2 hM hv (by omega) h91 (fun W53 hW53 hz53 hL53 => ?_) (fun W53 hW53 hz53 => ?_))
                    · dsimp only [jpush]
                      (try simp (disch := omega) only [jset_k, jset_j, jset_same, true_and, and_true] at W53 hW53 hz53 hL53)
                      first
                       | (exfalso; omega)
                       | (skip
                          refine e_istore_n (i := 3) (lsn := [(3, _), (0, _), (1, _), (2, _)]) 57 dX11_text_56 rfl (by decide) rfl rfl ?_
                          refine e_iload_n (i := 3) 58 dX11_text_57 rfl rfl rfl ?_
                          refine e_if_ne 61 72 dX11_text_58 (by decide) (by decide) rfl (fun _ => ?_) (fun h => absurd h (by decide))
                          refine e_iload_n (i := 1) 73 dX11_text_72 rfl rfl rfl ?_
                          refine e_if_ne 76 104 dX11_text_73 (by omega) (by decide) rfl (fun b73 => ?_) (fun b73 => ?_)
                          · first
                             | (exfalso; omega)
                             | (skip
                                refine e_aload_n (i := 0) 105 dX11_text_104 rfl rfl rfl ?_
                                refine e_getr (j := 0) 108 fl_11_10 dX11_text_105 at_0 rfl rfl tp_0_0 rfl ?_
                                refine e_getr (j := 3) 111 fl_11_87 dX11_text_108 at_1 rfl rfl tp_1_3 rfl ?_
                                refine e_aload_n (i := 0) 112 dX11_text_111 rfl rfl rfl ?_
                                refine e_getr (j := 3) 115 fl_11_27 dX11_text_112 at_0 rfl rfl tp_0_3 rfl ?_
                                refine e_getr (j := 2) 118 fl_11_91 dX11_text_115 at_882 rfl rfl tp_882_2 rfl ?_
                                refine e_callV 121 mt_yX2_copyFrom mv_yX2_copyFrom wd_710 (by decide) dX11_text_118 at_12 jc_2 rfl rfl rfl (Nat.le_of_ble_eq_true rfl) (jroom (by decide)) rfl (c_LooksCp lk_12 lk_890 (by omega) hL53.2.1 ?_)
                                dsimp only [jpush]
                                refine e_aload_n (i := 0) 122 dX11_text_121 rfl rfl rfl ?_
                                refine e_getr (j := 0) 125 fl_11_10 dX11_text_122 at_0 rfl rfl tp_0_0 rfl ?_
                                refine e_getr (j := 3) 128 fl_11_87 dX11_text_125 at_1 rfl rfl tp_1_3 rfl ?_
                                refine e_geti (j := 0) 131 fl_11_97 dX11_text_128 at_12 (by decide) rfl rfl (fun r128 => ?_)
                                skip
                                refine e_iret dX11_text_131 ?_
                                first
                                  | (exfalso; omega)
                                  | (have ea : what = 1 := by omega
                                     subst ea
                                     have q := hL53.2.2 hz53
                                     have e5 : mv W53 (RLk (W53 890 1) 12) (12 - 890) 12 0 = (txZ M n 1).2.2.2.2.2.2.2.2.2 65 := by
                                       rw [mv_in (by unfold RLk; omega)]
                                       exact q.1
                                     rw [e5]
                                     exact hlook rfl (by omega) hv W53 hW53 hz53 hL53))
                          · first
                             | (exfalso; omega)
                             | (skip
                                refine e_aload_n (i := 0) 77 dX11_text_76 rfl rfl rfl ?_
                                refine e_getr (j := 0) 80 fl_11_10 dX11_text_77 at_0 rfl rfl tp_0_0 rfl ?_
                                refine e_getr (j := 0) 83 fl_11_73 dX11_text_80 at_1 rfl rfl tp_1_0 rfl ?_
                                refine e_aload_n (i := 0) 84 dX11_text_83 rfl rfl rfl ?_
                                refine e_getr (j := 3) 87 fl_11_27 dX11_text_84 at_0 rfl rfl tp_0_3 rfl ?_
                                refine e_getr (j := 1) 90 fl_11_77 dX11_text_87 at_882 rfl rfl tp_882_1 rfl ?_
                                refine e_callV 93 mt_yX1_copyFrom mv_yX1_copyFrom wd_703 (by decide) dX11_text_90 at_2 jc_1 rfl rfl rfl (Nat.le_of_ble_eq_true rfl) (jroom (by decide)) rfl (c_LawCp lw_2 lw_885 (by omega) ?_)
                                dsimp only [jpush]
                                refine e_aload_n (i := 0) 94 dX11_text_93 rfl rfl rfl ?_
                                refine e_getr (j := 0) 97 fl_11_10 dX11_text_94 at_0 rfl rfl tp_0_0 rfl ?_
                                refine e_getr (j := 0) 100 fl_11_73 dX11_text_97 at_1 rfl rfl tp_1_0 rfl ?_
                                refine e_geti (j := 5) 103 fl_11_84 dX11_text_100 at_2 (by decide) rfl rfl (fun r100 => ?_)
                                skip
                                refine e_iret dX11_text_103 ?_
                                first
                                  | (exfalso; omega)
                                  | (have ea : what = 0 := by omega
                                     subst ea
                                     have e5 : mv W42 (RLw 2) (2 - 885) 2 5 = (txZ M n 0).2.2.2.2.2.2.2.2.2 31 := by
                                       rw [mv_in (by unfold RLw; omega)]
                                       exact hL42.2.1
                                     rw [e5]
                                     exact hlaw rfl (by omega) hv W42 hW42 hz42 hL42)))
                    · dsimp only [jpush]
                      (try simp (disch := omega) only [jset_k, jset_j, jset_same, true_and, and_true] at W53 hW53 hz53)
                      first
                       | (exfalso; omega)
                       | (skip
                          refine e_istore_n (i := 3) (lsn := [(3, _), (0, _), (1, _), (2, _)]) 57 dX11_text_56 rfl (by decide) rfl rfl ?_
                          refine e_iload_n (i := 3) 58 dX11_text_57 rfl rfl rfl ?_
                          refine e_if_ne 61 72 dX11_text_58 (by decide) (by decide) rfl (fun h => absurd h (by decide)) (fun _ => ?_)
                          refine e_bipush 63 dX11_text_61 (by decide) rfl ?_
                          refine e_aload_n (i := 0) 64 dX11_text_63 rfl rfl rfl ?_
                          refine e_getr (j := 3) 67 fl_11_27 dX11_text_64 at_0 rfl rfl tp_0_3 rfl ?_
                          refine e_geti (j := 4) 70 fl_11_70 dX11_text_67 at_882 (by decide) rfl rfl (fun r67 => ?_)
                          skip
                          refine e_isub 71 dX11_text_70 rfl ?_
                          refine e_iret dX11_text_71 ?_
                          first
                            | (exfalso; omega)
                            | (have ew := hW53.2.2.2.2.1
                               have ea : what = 1 := by omega
                               subst ea
                               rw [ew]
                               exact hbad (by omega) hv W53 hW53 hz53)))
              · first
                 | (exfalso; omega)
                 | (skip
                    refine e_aload_n (i := 0) 38 dX11_text_37 rfl rfl rfl ?_
                    refine e_getr (j := 3) 41 fl_11_27 dX11_text_38 at_0 rfl rfl tp_0_3 rfl ?_
                    refine e_iload_n (i := 2) 42 dX11_text_41 rfl rfl rfl ?_
                    refine e_callV 45 mt_yX6_readLaw mv_yX6_readLaw wd_534 (by decide) dX11_text_42 at_882 jc_6 rfl rfl rfl (Nat.le_of_ble_eq_true rfl) (jroom (by decide)) rfl (c_readLaw2 hM hv (by omega) h91 (fun W42 hW42 hz42 hL42 => ?_) (fun W42 hW42 hz42 => ?_))
                    · dsimp only [jpush]
                      (try simp (disch := omega) only [jset_k, jset_j, jset_same, true_and, and_true] at W42 hW42 hz42 hL42)
                      first
                       | (exfalso; omega)
                       | (skip
                          refine e_goto 56 dX11_text_45 (by decide) ?_
                          refine e_istore_n (i := 3) (lsn := [(3, _), (0, _), (1, _), (2, _)]) 57 dX11_text_56 rfl (by decide) rfl rfl ?_
                          refine e_iload_n (i := 3) 58 dX11_text_57 rfl rfl rfl ?_
                          refine e_if_ne 61 72 dX11_text_58 (by decide) (by decide) rfl (fun _ => ?_) (fun h => absurd h (by decide))
                          refine e_iload_n (i := 1) 73 dX11_text_72 rfl rfl rfl ?_
                          refine e_if_ne 76 104 dX11_text_73 (by omega) (by decide) rfl (fun b73 => ?_) (fun b73 => ?_)
                          · first
                             | (exfalso; omega)
                             | (skip
                                refine e_aload_n (i := 0) 105 dX11_text_104 rfl rfl rfl ?_
                                refine e_getr (j := 0) 108 fl_11_10 dX11_text_105 at_0 rfl rfl tp_0_0 rfl ?_
                                refine e_getr (j := 3) 111 fl_11_87 dX11_text_108 at_1 rfl rfl tp_1_3 rfl ?_
                                refine e_aload_n (i := 0) 112 dX11_text_111 rfl rfl rfl ?_
                                refine e_getr (j := 3) 115 fl_11_27 dX11_text_112 at_0 rfl rfl tp_0_3 rfl ?_
                                refine e_getr (j := 2) 118 fl_11_91 dX11_text_115 at_882 rfl rfl tp_882_2 rfl ?_
                                refine e_callV 121 mt_yX2_copyFrom mv_yX2_copyFrom wd_710 (by decide) dX11_text_118 at_12 jc_2 rfl rfl rfl (Nat.le_of_ble_eq_true rfl) (jroom (by decide)) rfl (c_LooksCp lk_12 lk_890 (by omega) hL53.2.1 ?_)
                                dsimp only [jpush]
                                refine e_aload_n (i := 0) 122 dX11_text_121 rfl rfl rfl ?_
                                refine e_getr (j := 0) 125 fl_11_10 dX11_text_122 at_0 rfl rfl tp_0_0 rfl ?_
                                refine e_getr (j := 3) 128 fl_11_87 dX11_text_125 at_1 rfl rfl tp_1_3 rfl ?_
                                refine e_geti (j := 0) 131 fl_11_97 dX11_text_128 at_12 (by decide) rfl rfl (fun r128 => ?_)
                                skip
                                refine e_iret dX11_text_131 ?_
                                first
                                  | (exfalso; omega)
                                  | (have ea : what = 1 := by omega
                                     subst ea
                                     have q := hL53.2.2 hz53
                                     have e5 : mv W53 (RLk (W53 890 1) 12) (12 - 890) 12 0 = (txZ M n 1).2.2.2.2.2.2.2.2.2 65 := by
                                       rw [mv_in (by unfold RLk; omega)]
                                       exact q.1
                                     rw [e5]
                                     exact hlook rfl (by omega) hv W53 hW53 hz53 hL53))
                          · first
                             | (exfalso; omega)
                             | (skip
                                refine e_aload_n (i := 0) 77 dX11_text_76 rfl rfl rfl ?_
                                refine e_getr (j := 0) 80 fl_11_10 dX11_text_77 at_0 rfl rfl tp_0_0 rfl ?_
                                refine e_getr (j := 0) 83 fl_11_73 dX11_text_80 at_1 rfl rfl tp_1_0 rfl ?_
                                refine e_aload_n (i := 0) 84 dX11_text_83 rfl rfl rfl ?_
                                refine e_getr (j := 3) 87 fl_11_27 dX11_text_84 at_0 rfl rfl tp_0_3 rfl ?_
                                refine e_getr (j := 1) 90 fl_11_77 dX11_text_87 at_882 rfl rfl tp_882_1 rfl ?_
                                refine e_callV 93 mt_yX1_copyFrom mv_yX1_copyFrom wd_703 (by decide) dX11_text_90 at_2 jc_1 rfl rfl rfl (Nat.le_of_ble_eq_true rfl) (jroom (by decide)) rfl (c_LawCp lw_2 lw_885 (by omega) ?_)
                                dsimp only [jpush]
                                refine e_aload_n (i := 0) 94 dX11_text_93 rfl rfl rfl ?_
                                refine e_getr (j := 0) 97 fl_11_10 dX11_text_94 at_0 rfl rfl tp_0_0 rfl ?_
                                refine e_getr (j := 0) 100 fl_11_73 dX11_text_97 at_1 rfl rfl tp_1_0 rfl ?_
                                refine e_geti (j := 5) 103 fl_11_84 dX11_text_100 at_2 (by decide) rfl rfl (fun r100 => ?_)
                                skip
                                refine e_iret dX11_text_103 ?_
                                first
                                  | (exfalso; omega)
                                  | (have ea : what = 0 := by omega
                                     subst ea
                                     have e5 : mv W42 (RLw 2) (2 - 885) 2 5 = (txZ M n 0).2.2.2.2.2.2.2.2.2 31 := by
                                       rw [mv_in (by unfold RLw; omega)]
                                       exact hL42.2.1
                                     rw [e5]
                                     exact hlaw rfl (by omega) hv W42 hW42 hz42 hL42)))
                    · dsimp only [jpush]
                      (try simp (disch := omega) only [jset_k, jset_j, jset_same, true_and, and_true] at W42 hW42 hz42)
                      first
                       | (exfalso; omega)
                       | (skip
                          refine e_goto 56 dX11_text_45 (by decide) ?_
                          refine e_istore_n (i := 3) (lsn := [(3, _), (0, _), (1, _), (2, _)]) 57 dX11_text_56 rfl (by decide) rfl rfl ?_
                          refine e_iload_n (i := 3) 58 dX11_text_57 rfl rfl rfl ?_
                          refine e_if_ne 61 72 dX11_text_58 (by decide) (by decide) rfl (fun h => absurd h (by decide)) (fun _ => ?_)
                          refine e_bipush 63 dX11_text_61 (by decide) rfl ?_
                          refine e_aload_n (i := 0) 64 dX11_text_63 rfl rfl rfl ?_
                          refine e_getr (j := 3) 67 fl_11_27 dX11_text_64 at_0 rfl rfl tp_0_3 rfl ?_
                          refine e_geti (j := 4) 70 fl_11_70 dX11_text_67 at_882 (by decide) rfl rfl (fun r67 => ?_)
                          skip
                          refine e_isub 71 dX11_text_70 rfl ?_
                          refine e_iret dX11_text_71 ?_
                          first
                            | (exfalso; omega)
                            | (have ew := hW42.2.2.2.2.1
                               have ea : what = 0 := by omega
                               subst ea
                               rw [ew]
                               exact hbad (by omega) hv W42 hW42 hz42))))
        · dsimp only [jpush]
          first
           | (exfalso; omega)
           | (skip
              refine e_if_ne 30 33 dX11_text_27 (by decide) (by decide) rfl (fun h => absurd h (by decide)) (fun _ => ?_)
              refine e_bipush 32 dX11_text_30 (by decide) rfl ?_
              refine e_iret dX11_text_32 ?_
              exact h3 (by omega)))
  · first
     | (exfalso; omega)
     | (skip
        refine e_iload_n (i := 1) 5 dX11_text_4 rfl rfl rfl ?_
        refine e_iconst 6 dX11_text_5 rfl ?_
        refine e_icmp_eq 9 12 dX11_text_6 (by omega) (by decide) (by decide) rfl (fun b6 => ?_) (fun b6 => ?_)
        · first
           | (exfalso; omega)
           | (skip
              refine e_iload_n (i := 2) 13 dX11_text_12 rfl rfl rfl ?_
              refine e_iconst 14 dX11_text_13 rfl ?_
              refine e_aload_n (i := 0) 15 dX11_text_14 rfl rfl rfl ?_
              refine e_getr (j := 3) 18 fl_11_27 dX11_text_15 at_0 rfl rfl tp_0_3 rfl ?_
              refine e_getr (j := 0) 21 fl_11_45 dX11_text_18 at_882 rfl rfl tp_882_0 rfl ?_
              refine e_geti (j := 1) 24 fl_11_49 dX11_text_21 at_883 (by decide) rfl rfl (fun r21 => ?_)
              refine e_callS 27 mt_yX11_within ms_yX11_within wd_531 (by decide) dX11_text_24 rfl rfl (Nat.le_of_ble_eq_true rfl) (jroom (by decide)) rfl (c_within (by omega) (by omega) (by omega) (fun w24 => ?_) (fun w24 => ?_))
              · dsimp only [jpush]
                first
                 | (exfalso; omega)
                 | (skip
                    refine e_if_ne 30 33 dX11_text_27 (by decide) (by decide) rfl (fun _ => ?_) (fun h => absurd h (by decide))
                    have hM : CM M n := ⟨by omega, fun i a b => hT.2.2 i a (by omega)⟩
                    refine e_iload_n (i := 1) 34 dX11_text_33 rfl rfl rfl ?_
                    refine e_if_ne 37 48 dX11_text_34 (by omega) (by decide) rfl (fun b34 => ?_) (fun b34 => ?_)
                    · first
                       | (exfalso; omega)
                       | (skip
                          refine e_aload_n (i := 0) 49 dX11_text_48 rfl rfl rfl ?_
                          refine e_getr (j := 3) 52 fl_11_27 dX11_text_49 at_0 rfl rfl tp_0_3 rfl ?_
                          refine e_iload_n (i := 2) 53 dX11_text_52 rfl rfl rfl ?_
                          refine e_callV 56 mt_yX6_readLooks mv_yX6_readLooks wd_652 (by decide) dX11_text_53 at_882 jc_6 rfl rfl rfl (Nat.le_of_ble_eq_true rfl) (jroom (by decide)) rfl (c_readLooks2 hM hv (by omega) h91 (fun W53 hW53 hz53 hL53 => ?_) (fun W53 hW53 hz53 => ?_))
                          · dsimp only [jpush]
                            (try simp (disch := omega) only [jset_k, jset_j, jset_same, true_and, and_true] at W53 hW53 hz53 hL53)
                            first
                             | (exfalso; omega)
                             | (skip
                                refine e_istore_n (i := 3) (lsn := [(3, _), (0, _), (1, _), (2, _)]) 57 dX11_text_56 rfl (by decide) rfl rfl ?_
                                refine e_iload_n (i := 3) 58 dX11_text_57 rfl rfl rfl ?_
                                refine e_if_ne 61 72 dX11_text_58 (by decide) (by decide) rfl (fun _ => ?_) (fun h => absurd h (by decide))
                                refine e_iload_n (i := 1) 73 dX11_text_72 rfl rfl rfl ?_
                                refine e_if_ne 76 104 dX11_text_73 (by omega) (by decide) rfl (fun b73 => ?_) (fun b73 => ?_)
                                · first
                                   | (exfalso; omega)
                                   | (skip
                                      refine e_aload_n (i := 0) 105 dX11_text_104 rfl rfl rfl ?_
                                      refine e_getr (j := 0) 108 fl_11_10 dX11_text_105 at_0 rfl rfl tp_0_0 rfl ?_
                                      refine e_getr (j := 3) 111 fl_11_87 dX11_text_108 at_1 rfl rfl tp_1_3 rfl ?_
                                      refine e_aload_n (i := 0) 112 dX11_text_111 rfl rfl rfl ?_
                                      refine e_getr (j := 3) 115 fl_11_27 dX11_text_112 at_0 rfl rfl tp_0_3 rfl ?_
                                      refine e_getr (j := 2) 118 fl_11_91 dX11_text_115 at_882 rfl rfl tp_882_2 rfl ?_
                                      refine e_callV 121 mt_yX2_copyFrom mv_yX2_copyFrom wd_710 (by decide) dX11_text_118 at_12 jc_2 rfl rfl rfl (Nat.le_of_ble_eq_true rfl) (jroom (by decide)) rfl (c_LooksCp lk_12 lk_890 (by omega) hL53.2.1 ?_)
                                      dsimp only [jpush]
                                      refine e_aload_n (i := 0) 122 dX11_text_121 rfl rfl rfl ?_
                                      refine e_getr (j := 0) 125 fl_11_10 dX11_text_122 at_0 rfl rfl tp_0_0 rfl ?_
                                      refine e_getr (j := 3) 128 fl_11_87 dX11_text_125 at_1 rfl rfl tp_1_3 rfl ?_
                                      refine e_geti (j := 0) 131 fl_11_97 dX11_text_128 at_12 (by decide) rfl rfl (fun r128 => ?_)
                                      skip
                                      refine e_iret dX11_text_131 ?_
                                      first
                                        | (exfalso; omega)
                                        | (have ea : what = 1 := by omega
                                           subst ea
                                           have q := hL53.2.2 hz53
                                           have e5 : mv W53 (RLk (W53 890 1) 12) (12 - 890) 12 0 = (txZ M n 1).2.2.2.2.2.2.2.2.2 65 := by
                                             rw [mv_in (by unfold RLk; omega)]
                                             exact q.1
                                           rw [e5]
                                           exact hlook rfl (by omega) hv W53 hW53 hz53 hL53))
                                · first
                                   | (exfalso; omega)
                                   | (skip
                                      refine e_aload_n (i := 0) 77 dX11_text_76 rfl rfl rfl ?_
                                      refine e_getr (j := 0) 80 fl_11_10 dX11_text_77 at_0 rfl rfl tp_0_0 rfl ?_
                                      refine e_getr (j := 0) 83 fl_11_73 dX11_text_80 at_1 rfl rfl tp_1_0 rfl ?_
                                      refine e_aload_n (i := 0) 84 dX11_text_83 rfl rfl rfl ?_
                                      refine e_getr (j := 3) 87 fl_11_27 dX11_text_84 at_0 rfl rfl tp_0_3 rfl ?_
                                      refine e_getr (j := 1) 90 fl_11_77 dX11_text_87 at_882 rfl rfl tp_882_1 rfl ?_
                                      refine e_callV 93 mt_yX1_copyFrom mv_yX1_copyFrom wd_703 (by decide) dX11_text_90 at_2 jc_1 rfl rfl rfl (Nat.le_of_ble_eq_true rfl) (jroom (by decide)) rfl (c_LawCp lw_2 lw_885 (by omega) ?_)
                                      dsimp only [jpush]
                                      refine e_aload_n (i := 0) 94 dX11_text_93 rfl rfl rfl ?_
                                      refine e_getr (j := 0) 97 fl_11_10 dX11_text_94 at_0 rfl rfl tp_0_0 rfl ?_
                                      refine e_getr (j := 0) 100 fl_11_73 dX11_text_97 at_1 rfl rfl tp_1_0 rfl ?_
                                      refine e_geti (j := 5) 103 fl_11_84 dX11_text_100 at_2 (by decide) rfl rfl (fun r100 => ?_)
                                      skip
                                      refine e_iret dX11_text_103 ?_
                                      first
                                        | (exfalso; omega)
                                        | (have ea : what = 0 := by omega
                                           subst ea
                                           have e5 : mv W42 (RLw 2) (2 - 885) 2 5 = (txZ M n 0).2.2.2.2.2.2.2.2.2 31 := by
                                             rw [mv_in (by unfold RLw; omega)]
                                             exact hL42.2.1
                                           rw [e5]
                                           exact hlaw rfl (by omega) hv W42 hW42 hz42 hL42)))
                          · dsimp only [jpush]
                            (try simp (disch := omega) only [jset_k, jset_j, jset_same, true_and, and_true] at W53 hW53 hz53)
                            first
                             | (exfalso; omega)
                             | (skip
                                refine e_istore_n (i := 3) (lsn := [(3, _), (0, _), (1, _), (2, _)]) 57 dX11_text_56 rfl (by decide) rfl rfl ?_
                                refine e_iload_n (i := 3) 58 dX11_text_57 rfl rfl rfl ?_
                                refine e_if_ne 61 72 dX11_text_58 (by decide) (by decide) rfl (fun h => absurd h (by decide)) (fun _ => ?_)
                                refine e_bipush 63 dX11_text_61 (by decide) rfl ?_
                                refine e_aload_n (i := 0) 64 dX11_text_63 rfl rfl rfl ?_
                                refine e_getr (j := 3) 67 fl_11_27 dX11_text_64 at_0 rfl rfl tp_0_3 rfl ?_
                                refine e_geti (j := 4) 70 fl_11_70 dX11_text_67 at_882 (by decide) rfl rfl (fun r67 => ?_)
                                skip
                                refine e_isub 71 dX11_text_70 rfl ?_
                                refine e_iret dX11_text_71 ?_
                                first
                                  | (exfalso; omega)
                                  | (have ew := hW53.2.2.2.2.1
                                     have ea : what = 1 := by omega
                                     subst ea
                                     rw [ew]
                                     exact hbad (by omega) hv W53 hW53 hz53)))
                    · first
                       | (exfalso; omega)
                       | (skip
                          refine e_aload_n (i := 0) 38 dX11_text_37 rfl rfl rfl ?_
                          refine e_getr (j := 3) 41 fl_11_27 dX11_text_38 at_0 rfl rfl tp_0_3 rfl ?_
                          refine e_iload_n (i := 2) 42 dX11_text_41 rfl rfl rfl ?_
                          refine e_callV 45 mt_yX6_readLaw mv_yX6_readLaw wd_534 (by decide) dX11_text_42 at_882 jc_6 rfl rfl rfl (Nat.le_of_ble_eq_true rfl) (jroom (by decide)) rfl (c_readLaw2 hM hv (by omega) h91 (fun W42 hW42 hz42 hL42 => ?_) (fun W42 hW42 hz42 => ?_))
                          · dsimp only [jpush]
                            (try simp (disch := omega) only [jset_k, jset_j, jset_same, true_and, and_true] at W42 hW42 hz42 hL42)
                            first
                             | (exfalso; omega)
                             | (skip
                                refine e_goto 56 dX11_text_45 (by decide) ?_
                                refine e_istore_n (i := 3) (lsn := [(3, _), (0, _), (1, _), (2, _)]) 57 dX11_text_56 rfl (by decide) rfl rfl ?_
                                refine e_iload_n (i := 3) 58 dX11_text_57 rfl rfl rfl ?_
                                refine e_if_ne 61 72 dX11_text_58 (by decide) (by decide) rfl (fun _ => ?_) (fun h => absurd h (by decide))
                                refine e_iload_n (i := 1) 73 dX11_text_72 rfl rfl rfl ?_
                                refine e_if_ne 76 104 dX11_text_73 (by omega) (by decide) rfl (fun b73 => ?_) (fun b73 => ?_)
                                · first
                                   | (exfalso; omega)
                                   | (skip
                                      refine e_aload_n (i := 0) 105 dX11_text_104 rfl rfl rfl ?_
                                      refine e_getr (j := 0) 108 fl_11_10 dX11_text_105 at_0 rfl rfl tp_0_0 rfl ?_
                                      refine e_getr (j := 3) 111 fl_11_87 dX11_text_108 at_1 rfl rfl tp_1_3 rfl ?_
                                      refine e_aload_n (i := 0) 112 dX11_text_111 rfl rfl rfl ?_
                                      refine e_getr (j := 3) 115 fl_11_27 dX11_text_112 at_0 rfl rfl tp_0_3 rfl ?_
                                      refine e_getr (j := 2) 118 fl_11_91 dX11_text_115 at_882 rfl rfl tp_882_2 rfl ?_
                                      refine e_callV 121 mt_yX2_copyFrom mv_yX2_copyFrom wd_710 (by decide) dX11_text_118 at_12 jc_2 rfl rfl rfl (Nat.le_of_ble_eq_true rfl) (jroom (by decide)) rfl (c_LooksCp lk_12 lk_890 (by omega) hL53.2.1 ?_)
                                      dsimp only [jpush]
                                      refine e_aload_n (i := 0) 122 dX11_text_121 rfl rfl rfl ?_
                                      refine e_getr (j := 0) 125 fl_11_10 dX11_text_122 at_0 rfl rfl tp_0_0 rfl ?_
                                      refine e_getr (j := 3) 128 fl_11_87 dX11_text_125 at_1 rfl rfl tp_1_3 rfl ?_
                                      refine e_geti (j := 0) 131 fl_11_97 dX11_text_128 at_12 (by decide) rfl rfl (fun r128 => ?_)
                                      skip
                                      refine e_iret dX11_text_131 ?_
                                      first
                                        | (exfalso; omega)
                                        | (have ea : what = 1 := by omega
                                           subst ea
                                           have q := hL53.2.2 hz53
                                           have e5 : mv W53 (RLk (W53 890 1) 12) (12 - 890) 12 0 = (txZ M n 1).2.2.2.2.2.2.2.2.2 65 := by
                                             rw [mv_in (by unfold RLk; omega)]
                                             exact q.1
                                           rw [e5]
                                           exact hlook rfl (by omega) hv W53 hW53 hz53 hL53))
                                · first
                                   | (exfalso; omega)
                                   | (skip
                                      refine e_aload_n (i := 0) 77 dX11_text_76 rfl rfl rfl ?_
                                      refine e_getr (j := 0) 80 fl_11_10 dX11_text_77 at_0 rfl rfl tp_0_0 rfl ?_
                                      refine e_getr (j := 0) 83 fl_11_73 dX11_text_80 at_1 rfl rfl tp_1_0 rfl ?_
                                      refine e_aload_n (i := 0) 84 dX11_text_83 rfl rfl rfl ?_
                                      refine e_getr (j := 3) 87 fl_11_27 dX11_text_84 at_0 rfl rfl tp_0_3 rfl ?_
                                      refine e_getr (j := 1) 90 fl_11_77 dX11_text_87 at_882 rfl rfl tp_882_1 rfl ?_
                                      refine e_callV 93 mt_yX1_copyFrom mv_yX1_copyFrom wd_703 (by decide) dX11_text_90 at_2 jc_1 rfl rfl rfl (Nat.le_of_ble_eq_true rfl) (jroom (by decide)) rfl (c_LawCp lw_2 lw_885 (by omega) ?_)
                                      dsimp only [jpush]
                                      refine e_aload_n (i := 0) 94 dX11_text_93 rfl rfl rfl ?_
                                      refine e_getr (j := 0) 97 fl_11_10 dX11_text_94 at_0 rfl rfl tp_0_0 rfl ?_
                                      refine e_getr (j := 0) 100 fl_11_73 dX11_text_97 at_1 rfl rfl tp_1_0 rfl ?_
                                      refine e_geti (j := 5) 103 fl_11_84 dX11_text_100 at_2 (by decide) rfl rfl (fun r100 => ?_)
                                      skip
                                      refine e_iret dX11_text_103 ?_
                                      first
                                        | (exfalso; omega)
                                        | (have ea : what = 0 := by omega
                                           subst ea
                                           have e5 : mv W42 (RLw 2) (2 - 885) 2 5 = (txZ M n 0).2.2.2.2.2.2.2.2.2 31 := by
                                             rw [mv_in (by unfold RLw; omega)]
                                             exact hL42.2.1
                                           rw [e5]
                                           exact hlaw rfl (by omega) hv W42 hW42 hz42 hL42)))
                          · dsimp only [jpush]
                            (try simp (disch := omega) only [jset_k, jset_j, jset_same, true_and, and_true] at W42 hW42 hz42)
                            first
                             | (exfalso; omega)
                             | (skip
                                refine e_goto 56 dX11_text_45 (by decide) ?_
                                refine e_istore_n (i := 3) (lsn := [(3, _), (0, _), (1, _), (2, _)]) 57 dX11_text_56 rfl (by decide) rfl rfl ?_
                                refine e_iload_n (i := 3) 58 dX11_text_57 rfl rfl rfl ?_
                                refine e_if_ne 61 72 dX11_text_58 (by decide) (by decide) rfl (fun h => absurd h (by decide)) (fun _ => ?_)
                                refine e_bipush 63 dX11_text_61 (by decide) rfl ?_
                                refine e_aload_n (i := 0) 64 dX11_text_63 rfl rfl rfl ?_
                                refine e_getr (j := 3) 67 fl_11_27 dX11_text_64 at_0 rfl rfl tp_0_3 rfl ?_
                                refine e_geti (j := 4) 70 fl_11_70 dX11_text_67 at_882 (by decide) rfl rfl (fun r67 => ?_)
                                skip
                                refine e_isub 71 dX11_text_70 rfl ?_
                                refine e_iret dX11_text_71 ?_
                                first
                                  | (exfalso; omega)
                                  | (have ew := hW42.2.2.2.2.1
                                     have ea : what = 0 := by omega
                                     subst ea
                                     rw [ew]
                                     exact hbad (by omega) hv W42 hW42 hz42))))
              · dsimp only [jpush]
                first
                 | (exfalso; omega)
                 | (skip
                    refine e_if_ne 30 33 dX11_text_27 (by decide) (by decide) rfl (fun h => absurd h (by decide)) (fun _ => ?_)
                    refine e_bipush 32 dX11_text_30 (by decide) rfl ?_
                    refine e_iret dX11_text_32 ?_
                    exact h3 (by omega)))
        · first
           | (exfalso; omega)
           | (skip
              refine e_bipush 11 dX11_text_9 (by decide) rfl ?_
              refine e_iret dX11_text_11 ?_
              exact h2 (by omega)))

