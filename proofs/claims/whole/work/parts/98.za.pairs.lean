/-! TEXTS *** the class: what must be, numbers -/
theorem c_stp {M Z : jM} {n : Int} {Q : Int → jM → Prop} (hM : CM M n) {s : PS} (hZ : CTk M Z n s) (hI : PI n s) (hw : s.2.2.2.2.1 = 0) (h : ∀ W : jM, CTk M W n (pNext (M 931) n s) → CO Z W → Q 0 W) : jCt yX9_step cX9_step 1 none 1 [jR 883] Z Q := c_step hM hZ hI h hw
theorem c_rfs {M Z : jM} {n : Int} {Q : Int → jM → Prop} (hM : CM M n) {s : PS} (hZ : CTk M Z n s) (hI : PI n s) {f : Int} (hf : 1 ≤ f ∧ f ≤ 5) (hw : s.2.2.2.2.1 = 0) (h : ∀ W : jM, CTk M W n (pFail f s) → CO Z W → Q 0 W) : jCt yX6_refuse cX6_refuse 2 none 1 [jR 882, jI f] Z Q := c_refuse hM hZ hI hf h hw
theorem fail_id {s : PS} {f : Int} (h : s.2.2.2.2.1 ≠ 0) : pFail f s = s := if_pos h
theorem CTk.set {M Z : jM} {n : Int} {s : PS} (h : CTk M Z n s) {k i v : Int} (hk : 885 ≤ k ∧ k ≤ 889) : CTk M (jset Z k i v) n s := by
  obtain ⟨h1, h2, h3, h4, h5, h6⟩ := h
  refine ⟨fun c hc => ?_, ?_, ?_, ?_, ?_, ?_⟩
  · rw [row_k (by omega), h1 c hc]
  · exact ⟨by rw [jset_k (by omega)]; exact h2.1, by rw [jset_k (by omega)]; exact h2.2⟩
  · rw [jset_k (by omega)]
    exact h3
  · have e : jset Z k i v 883 = Z 883 := row_k (by omega)
    unfold TR
    rw [e]
    exact h4
  · rw [jset_k (by omega)]
    exact h5
  · rw [jset_k (by omega)]
    exact h6
theorem CTk.told {M Z : jM} {n : Int} {s : PS} (h : CTk M Z n s) {v : Int} : CTk M (jset Z 882 3 v) n s := by
  obtain ⟨h1, h2, h3, h4, h5, h6⟩ := h
  refine ⟨fun c hc => ?_, ?_, ?_, ?_, ?_, ?_⟩
  · rw [row_k (by omega), h1 c hc]
  · exact ⟨by rw [jset_k (by omega)]; exact h2.1, by rw [jset_k (by omega)]; exact h2.2⟩
  · rw [jset_k (by omega)]
    exact h3
  · have e : jset Z 882 3 v 883 = Z 883 := row_k (by omega)
    unfold TR
    rw [e]
    exact h4
  · rw [jset_j (by omega)]
    exact h5
  · rw [jset_j (by omega)]
    exact h6
theorem c_pass {M Z : jM} {n : Int} {Q : Int → jM → Prop} (hM : CM M n) {s : PS} (hZ : CTk M Z n s) (hI : PI n s) {due k : Int} (hd : (due = 1 ∧ s.2.2.1 = k) ∨ (due = 0 ∧ s.2.2.1 ≠ k)) (h : ∀ W : jM, CTk M W n (pMust (M 931) n k s) → CO Z W → Q 0 W) : jCt yX6_pass cX6_pass 2 none 2 [jR 882, jI due] Z Q := by
  refine jCt_of mt_yX6_pass (Nat.le_of_ble_eq_true rfl) (fun X => ?_)
  have e3 := hZ.2.2.2.1.1
  have e5 := hZ.2.2.2.1.2.1
  have eT := hZ.2.2.2.1.2.2
  have hi1 := hI.1
  have hi2 := hI.2.1
  have hn0 := hM.1
  have ew := hZ.2.2.2.2.1
  refine e_aload_n (i := 0) 1 dX6_pass_0 rfl rfl rfl ?_
  refine e_geti (j := 4) 4 fl_6_36 dX6_pass_1 at_882 (by decide) rfl rfl (fun r1 => ?_)
  refine e_if_ne 7 26 dX6_pass_4 (by omega) (by decide) rfl (fun b4 => ?_) (fun b4 => ?_)
  · first
     | (exfalso; omega)
     | (skip
        refine e_vret dX6_pass_26 ?_
        have e : pMust (M 931) n k s = s := by
          rw [pMust, if_neg (by omega), fail_id (by omega)]
        rw [e] at h
        exact h Z hZ CO.rf)
  · first
     | (exfalso; omega)
     | (skip
        refine e_iload_n (i := 1) 8 dX6_pass_7 rfl rfl rfl ?_
        refine e_if_eq 11 21 dX6_pass_8 (by omega) (by decide) rfl (fun b8 => ?_) (fun b8 => ?_)
        · first
           | (exfalso; omega)
           | (skip
              refine e_aload_n (i := 0) 22 dX6_pass_21 rfl rfl rfl ?_
              refine e_iconst 23 dX6_pass_22 rfl ?_
              refine e_callV 26 mt_yX6_refuse mv_yX6_refuse wd_611 (by decide) dX6_pass_23 at_882 jc_6 rfl rfl rfl (Nat.le_of_ble_eq_true rfl) (jroom (by decide)) rfl (c_rfs hM hZ hI (by omega) (by omega) (fun W23 hW23 hO23 => ?_))
              dsimp only [jpush]
              (try simp (disch := omega) only [jset_k, jset_j, jset_same, true_and, and_true] at W23 hW23 hO23)
              refine e_vret dX6_pass_26 ?_
              first
                | (exfalso; omega)
                | (rw [pMust, if_neg (by omega)] at h
                   exact h _ hW23 hO23))
        · first
           | (exfalso; omega)
           | (skip
              refine e_aload_n (i := 0) 12 dX6_pass_11 rfl rfl rfl ?_
              refine e_getr (j := 0) 15 fl_6_12 dX6_pass_12 at_882 rfl rfl tp_882_0 rfl ?_
              refine e_callV 18 mt_yX9_step mv_yX9_step wd_615 (by decide) dX6_pass_15 at_883 jc_9 rfl rfl rfl (Nat.le_of_ble_eq_true rfl) (jroom (by decide)) rfl (c_stp hM hZ hI (by omega) (fun W15 hW15 hO15 => ?_))
              dsimp only [jpush]
              (try simp (disch := omega) only [jset_k, jset_j, jset_same, true_and, and_true] at W15 hW15 hO15)
              refine e_goto 26 dX6_pass_18 (by decide) ?_
              refine e_vret dX6_pass_26 ?_
              first
                | (exfalso; omega)
                | (rw [pMust, if_pos (by omega)] at h
                   exact h _ hW15 hO15)))

theorem c_pnum {M Z : jM} {n : Int} {Q : Int → jM → Prop} (hM : CM M n) {s : PS} (hZ : CTk M Z n s) (hI : PI n s) {lo hi : Int} (hlo : -2147483648 ≤ lo ∧ lo ≤ 2147483647) (hhi : -2147483648 ≤ hi ∧ hi ≤ 2147483647) (h : ∀ (W : jM) (r : Int), CTk M W n (pRead (M 931) n lo hi s) → CO Z W → (-2147483648 ≤ r ∧ r ≤ 2147483647) → ((pRead (M 931) n lo hi s).2.2.2.2.1 = 0 → r = s.2.2.2.1) → Q r W) : jCt yX6_passNumber cX6_passNumber 4 (some .int) 2 [jR 882, jI lo, jI hi] Z Q := by
  refine jCt_of mt_yX6_passNumber (Nat.le_of_ble_eq_true rfl) (fun X => ?_)
  have e3 := hZ.2.2.2.1.1
  have e5 := hZ.2.2.2.1.2.1
  have eT := hZ.2.2.2.1.2.2
  have hi1 := hI.1
  have hi2 := hI.2.1
  have hn0 := hM.1
  have ew := hZ.2.2.2.2.1
  refine e_aload_n (i := 0) 1 dX6_passNumber_0 rfl rfl rfl ?_
  refine e_geti (j := 4) 4 fl_6_36 dX6_passNumber_1 at_882 (by decide) rfl rfl (fun r1 => ?_)
  refine e_if_eq 7 9 dX6_passNumber_4 (by omega) (by decide) rfl (fun b4 => ?_) (fun b4 => ?_)
  · first
     | (exfalso; omega)
     | (skip
        refine e_aload_n (i := 0) 10 dX6_passNumber_9 rfl rfl rfl ?_
        refine e_getr (j := 0) 13 fl_6_12 dX6_passNumber_10 at_882 rfl rfl tp_882_0 rfl ?_
        refine e_geti (j := 6) 16 fl_6_181 dX6_passNumber_13 at_883 (by decide) rfl rfl (fun r13 => ?_)
        refine e_istore_n (i := 3) (lsn := [(3, _), (0, _), (1, _), (2, _)]) 17 dX6_passNumber_16 rfl (by decide) rfl rfl ?_
        refine e_aload_n (i := 0) 18 dX6_passNumber_17 rfl rfl rfl ?_
        refine e_getr (j := 0) 21 fl_6_12 dX6_passNumber_18 at_882 rfl rfl tp_882_0 rfl ?_
        refine e_geti (j := 4) 24 fl_6_50 dX6_passNumber_21 at_883 (by decide) rfl rfl (fun r21 => ?_)
        refine e_iconst 25 dX6_passNumber_24 rfl ?_
        refine e_icmp_eq 28 36 dX6_passNumber_25 (by omega) (by decide) (by decide) rfl (fun b25 => ?_) (fun b25 => ?_)
        · first
           | (exfalso; omega)
           | (skip
              refine e_iload_n (i := 3) 37 dX6_passNumber_36 rfl rfl rfl ?_
              refine e_iload_n (i := 1) 38 dX6_passNumber_37 rfl rfl rfl ?_
              refine e_icmp_lt 41 46 dX6_passNumber_38 (by omega) (by omega) (by decide) rfl (fun b38 => ?_) (fun b38 => ?_)
              · first
                 | (exfalso; omega)
                 | (skip
                    refine e_aload_n (i := 0) 47 dX6_passNumber_46 rfl rfl rfl ?_
                    refine e_iconst 48 dX6_passNumber_47 rfl ?_
                    refine e_callV 51 mt_yX6_refuse mv_yX6_refuse wd_611 (by decide) dX6_passNumber_48 at_882 jc_6 rfl rfl rfl (Nat.le_of_ble_eq_true rfl) (jroom (by decide)) rfl (c_rfs hM hZ hI (by omega) (by omega) (fun W48 hW48 hO48 => ?_))
                    dsimp only [jpush]
                    (try simp (disch := omega) only [jset_k, jset_j, jset_same, true_and, and_true] at W48 hW48 hO48)
                    refine e_goto 61 dX6_passNumber_51 (by decide) ?_
                    refine e_iload_n (i := 3) 62 dX6_passNumber_61 rfl rfl rfl ?_
                    refine e_iret dX6_passNumber_62 ?_
                    first
                      | (exfalso; omega)
                      | (have e1 : pRd1 lo hi s = pFail 3 s := by
                           rw [pRd1, if_neg (fun z => z (by omega)), if_pos (by omega)]
                         have e2 := (pk_fail (f := 3) (by omega) hI).2
                         have e : pRead (M 931) n lo hi s = pFail 3 s := by
                           rw [pRead, e1, if_neg e2]
                         rw [e] at h
                         exact h _ _ hW48 hO48 (by omega) (fun q => absurd q e2)))
              · first
                 | (exfalso; omega)
                 | (skip
                    refine e_iload_n (i := 3) 42 dX6_passNumber_41 rfl rfl rfl ?_
                    refine e_iload_n (i := 2) 43 dX6_passNumber_42 rfl rfl rfl ?_
                    refine e_icmp_le 46 54 dX6_passNumber_43 (by omega) (by omega) (by decide) rfl (fun b43 => ?_) (fun b43 => ?_)
                    · first
                       | (exfalso; omega)
                       | (skip
                          refine e_aload_n (i := 0) 55 dX6_passNumber_54 rfl rfl rfl ?_
                          refine e_getr (j := 0) 58 fl_6_12 dX6_passNumber_55 at_882 rfl rfl tp_882_0 rfl ?_
                          refine e_callV 61 mt_yX9_step mv_yX9_step wd_615 (by decide) dX6_passNumber_58 at_883 jc_9 rfl rfl rfl (Nat.le_of_ble_eq_true rfl) (jroom (by decide)) rfl (c_stp hM hZ hI (by omega) (fun W58 hW58 hO58 => ?_))
                          dsimp only [jpush]
                          (try simp (disch := omega) only [jset_k, jset_j, jset_same, true_and, and_true] at W58 hW58 hO58)
                          refine e_iload_n (i := 3) 62 dX6_passNumber_61 rfl rfl rfl ?_
                          refine e_iret dX6_passNumber_62 ?_
                          first
                            | (exfalso; omega)
                            | (have e1 : pRd1 lo hi s = s := by
                                 rw [pRd1, if_neg (fun z => z (by omega)), if_neg (fun z => z (by omega))]
                               have e : pRead (M 931) n lo hi s = pNext (M 931) n s := by
                                 rw [pRead, e1, if_pos (by omega)]
                               rw [e] at h
                               exact h _ _ hW58 hO58 (by omega) (fun _ => by omega)))
                    · first
                       | (exfalso; omega)
                       | (skip
                          refine e_aload_n (i := 0) 47 dX6_passNumber_46 rfl rfl rfl ?_
                          refine e_iconst 48 dX6_passNumber_47 rfl ?_
                          refine e_callV 51 mt_yX6_refuse mv_yX6_refuse wd_611 (by decide) dX6_passNumber_48 at_882 jc_6 rfl rfl rfl (Nat.le_of_ble_eq_true rfl) (jroom (by decide)) rfl (c_rfs hM hZ hI (by omega) (by omega) (fun W48 hW48 hO48 => ?_))
                          dsimp only [jpush]
                          (try simp (disch := omega) only [jset_k, jset_j, jset_same, true_and, and_true] at W48 hW48 hO48)
                          refine e_goto 61 dX6_passNumber_51 (by decide) ?_
                          refine e_iload_n (i := 3) 62 dX6_passNumber_61 rfl rfl rfl ?_
                          refine e_iret dX6_passNumber_62 ?_
                          first
                            | (exfalso; omega)
                            | (have e1 : pRd1 lo hi s = pFail 3 s := by
                                 rw [pRd1, if_neg (fun z => z (by omega)), if_pos (by omega)]
                               have e2 := (pk_fail (f := 3) (by omega) hI).2
                               have e : pRead (M 931) n lo hi s = pFail 3 s := by
                                 rw [pRead, e1, if_neg e2]
                               rw [e] at h
                               exact h _ _ hW48 hO48 (by omega) (fun q => absurd q e2)))))
        · first
           | (exfalso; omega)
           | (skip
              refine e_aload_n (i := 0) 29 dX6_passNumber_28 rfl rfl rfl ?_
              refine e_iconst 30 dX6_passNumber_29 rfl ?_
              refine e_callV 33 mt_yX6_refuse mv_yX6_refuse wd_611 (by decide) dX6_passNumber_30 at_882 jc_6 rfl rfl rfl (Nat.le_of_ble_eq_true rfl) (jroom (by decide)) rfl (c_rfs hM hZ hI (by omega) (by omega) (fun W30 hW30 hO30 => ?_))
              dsimp only [jpush]
              (try simp (disch := omega) only [jset_k, jset_j, jset_same, true_and, and_true] at W30 hW30 hO30)
              refine e_goto 61 dX6_passNumber_33 (by decide) ?_
              refine e_iload_n (i := 3) 62 dX6_passNumber_61 rfl rfl rfl ?_
              refine e_iret dX6_passNumber_62 ?_
              first
                | (exfalso; omega)
                | (have e1 : pRd1 lo hi s = pFail 2 s := by
                     rw [pRd1, if_pos (by omega)]
                   have e2 := (pk_fail (f := 2) (by omega) hI).2
                   have e : pRead (M 931) n lo hi s = pFail 2 s := by
                     rw [pRead, e1, if_neg e2]
                   rw [e] at h
                   exact h _ _ hW30 hO30 (by omega) (fun q => absurd q e2))))
  · first
     | (exfalso; omega)
     | (skip
        refine e_iconst 8 dX6_passNumber_7 rfl ?_
        refine e_iret dX6_passNumber_8 ?_
        have e : pRead (M 931) n lo hi s = s := by
          have e1 : pRd1 lo hi s = s := by
            rw [pRd1, if_pos (by omega), fail_id (by omega)]
          rw [pRead, e1, if_neg (by omega)]
        rw [e] at h
        exact h Z 0 hZ CO.rf (by omega) (fun q => absurd q (by omega)))

