/-! THE CLASS: a shop's small methods -/
/-- what a pledge costs of interest now, by the class's cells -/
def iOf (M : jM) (p : Int) : Int := lChg M 2 (M (84 + p) 2) (1 + (M 1 4 - M (84 + p) 3) / 2)
def pOk (M : jM) (p : Int) : Prop := (0 ≤ p ∧ p < 60) ∧ lOk M 2 ∧ (1 ≤ M (84 + p) 2 ∧ M (84 + p) 2 ≤ 999) ∧ (0 ≤ M (84 + p) 3 ∧ M (84 + p) 3 ≤ M 1 4 ∧ M 1 4 ≤ 300)
theorem CR.pOk {M : jM} (h : CR M) {p : Int} (h0 : 0 ≤ p) (h1 : p < M 929 709) : pOk M p := by
  have a := h.pl h0 h1
  have b := h.plr h0 h1
  have c := h.cnt
  have d := h.rng
  exact ⟨⟨h0, by omega⟩, h.lrel.ok, by omega, by omega⟩
theorem CR.iOf {M : jM} (h : CR M) {p : Int} (h0 : 0 ≤ p) (h1 : p < M 929 709) : iOf M p = rI (M 929) p := by
  have a := h.pl h0 h1
  have c := h.cnt
  show lChg M 2 (M (84 + p) 2) (1 + (M 1 4 - M (84 + p) 3) / 2) = _
  rw [rI_eq h.rlaw, h.lrel.chg, a.1.2.2.1, a.1.2.2.2.1, c.2.2.2.2.2.2.1]
theorem iOf_rng {M : jM} {p : Int} (h : pOk M p) : 0 ≤ iOf M p ∧ iOf M p ≤ 400 * 98901 := lChg_rng h.2.1 h.2.2.1 (by have := h.2.2.2; omega)
theorem c_interestOf {p : Int} {M : jM} {Q : Int → jM → Prop} (hP : pOk M p) (h : Q (iOf M p) M) : jCt yX8_interestOf cX8_interestOf 2 (some .int) 3 [jR 1, jR (84 + p)] M Q := by
  refine jCt_of mt_yX8_interestOf (Nat.le_of_ble_eq_true rfl) (fun X => ?_)
  obtain ⟨hp, hO, hl, hw⟩ := hP
  refine e_aload_n (i := 0) 1 dX8_interestOf_0 rfl rfl rfl ?_
  refine e_getr (j := 0) 4 fl_8_12 dX8_interestOf_1 at_1 rfl rfl tp_1_0 rfl ?_
  refine e_aload_n (i := 1) 5 dX8_interestOf_4 rfl rfl rfl ?_
  refine e_geti (j := 2) 8 fl_8_205 dX8_interestOf_5 (at_pledge (by omega) (by omega)) (by decide) rfl rfl (fun r5 => ?_)
  refine e_aload_n (i := 1) 9 dX8_interestOf_8 rfl rfl rfl ?_
  refine e_geti (j := 3) 12 fl_8_208 dX8_interestOf_9 (at_pledge (by omega) (by omega)) (by decide) rfl rfl (fun r9 => ?_)
  refine e_aload_n (i := 0) 13 dX8_interestOf_12 rfl rfl rfl ?_
  refine e_geti (j := 4) 16 fl_8_81 dX8_interestOf_13 at_1 (by decide) rfl rfl (fun r13 => ?_)
  refine e_callS 19 mt_yX1_halves ms_yX1_halves wd_825 (by decide) dX8_interestOf_16 rfl rfl (Nat.le_of_ble_eq_true rfl) (jroom (by decide)) rfl (c_halves (by omega) ?_)
  dsimp only [jpush]
  refine e_callV 22 mt_yX1_charge mv_yX1_charge wd_826 (by decide) dX8_interestOf_19 at_2 jc_1 rfl rfl rfl (Nat.le_of_ble_eq_true rfl) (jroom (by decide)) rfl (c_charge (by omega) (by omega) lw_2 hO ?_)
  dsimp only [jpush]
  refine e_iret dX8_interestOf_22 ?_
  exact h

theorem c_due {p : Int} {M : jM} {Q : Int → jM → Prop} (hP : pOk M p) (h : Q (2 * M (84 + p) 2 + iOf M p) M) : jCt yX8_due cX8_due 2 (some .int) 4 [jR 1, jR (84 + p)] M Q := by
  refine jCt_of mt_yX8_due (Nat.le_of_ble_eq_true rfl) (fun X => ?_)
  obtain ⟨hp, hO, hl, hw⟩ := id hP
  refine e_iconst 1 dX8_due_0 rfl ?_
  refine e_aload_n (i := 1) 2 dX8_due_1 rfl rfl rfl ?_
  refine e_geti (j := 2) 5 fl_8_205 dX8_due_2 (at_pledge (by omega) (by omega)) (by decide) rfl rfl (fun r2 => ?_)
  refine e_imul 6 dX8_due_5 rfl ?_
  refine e_aload_n (i := 0) 7 dX8_due_6 rfl rfl rfl ?_
  refine e_aload_n (i := 1) 8 dX8_due_7 rfl rfl rfl ?_
  refine e_callV 11 mt_yX8_interestOf mv_yX8_interestOf wd_821 (by decide) dX8_due_8 at_1 jc_8 rfl rfl rfl (Nat.le_of_ble_eq_true rfl) (jroom (by decide)) rfl (c_interestOf hP ?_)
  dsimp only [jpush]
  refine e_iadd 12 dX8_due_11 rfl ?_
  refine e_iret dX8_due_12 ?_
  exact h

theorem c_isHeld {p : Int} {M : jM} {Q : Int → jM → Prop} (hp : 0 ≤ p ∧ p < 60) (h1 : M 1 4 < M (84 + p) 7 → Q 1 M) (h0 : M (84 + p) 7 ≤ M 1 4 → Q 0 M) : jCt yX8_isHeld cX8_isHeld 2 (some .boolean) 1 [jR 1, jR (84 + p)] M Q := by
  refine jCt_of mt_yX8_isHeld (Nat.le_of_ble_eq_true rfl) (fun X => ?_)
  refine e_aload_n (i := 0) 1 dX8_isHeld_0 rfl rfl rfl ?_
  refine e_geti (j := 4) 4 fl_8_81 dX8_isHeld_1 at_1 (by decide) rfl rfl (fun r1 => ?_)
  refine e_aload_n (i := 1) 5 dX8_isHeld_4 rfl rfl rfl ?_
  refine e_geti (j := 7) 8 fl_8_219 dX8_isHeld_5 (at_pledge (by omega) (by omega)) (by decide) rfl rfl (fun r5 => ?_)
  refine e_icmp_ge 11 15 dX8_isHeld_8 (by omega) (by omega) (by decide) rfl (fun b8 => ?_) (fun b8 => ?_)
  · skip
    refine e_iconst 16 dX8_isHeld_15 rfl ?_
    refine e_zret dX8_isHeld_16 (by decide) ?_
    first | exact h1 (by omega) | exact h0 (by omega)
  · skip
    refine e_iconst 12 dX8_isHeld_11 rfl ?_
    refine e_goto 16 dX8_isHeld_12 (by decide) ?_
    refine e_zret dX8_isHeld_16 (by decide) ?_
    first | exact h1 (by omega) | exact h0 (by omega)

theorem c_isPassed {p : Int} {M : jM} {Q : Int → jM → Prop} (hpp : -2147483648 ≤ p ∧ p ≤ 2147483647) (hC : CR M) (h1 : (0 ≤ p ∧ p < M 929 709) ∧ M 929 (1010 + p) = 0 ∧ M 929 28 ≤ M 929 708 - M 929 (890 + p) → Q 1 M) (h0 : ¬ ((0 ≤ p ∧ p < M 929 709) ∧ M 929 (1010 + p) = 0 ∧ M 929 28 ≤ M 929 708 - M 929 (890 + p)) → Q 0 M) : jCt yX8_isPassed cX8_isPassed 2 (some .boolean) 2 [jR 1, jI p] M Q := by
  refine jCt_of mt_yX8_isPassed (Nat.le_of_ble_eq_true rfl) (fun X => ?_)
  have hn := hC.cnt
  have hg := hC.rng
  have hu := hC.rule
  refine e_aload_n (i := 0) 1 dX8_isPassed_0 rfl rfl rfl ?_
  refine e_iload_n (i := 1) 2 dX8_isPassed_1 rfl rfl rfl ?_
  refine e_callV 5 mt_yX8_hasPledge mv_yX8_hasPledge wd_888 (by decide) dX8_isPassed_2 at_1 jc_8 rfl rfl rfl (Nat.le_of_ble_eq_true rfl) (jroom (by decide)) rfl (c_hasPledge (by omega) (fun w2 => ?_) (fun w2 => ?_))
  · dsimp only [jpush]
    refine e_if_eq 8 50 dX8_isPassed_5 (by decide) (by decide) rfl (fun h => absurd h (by decide)) (fun _ => ?_)
    have hp := hC.pl (p := p) (by omega) (by omega)
    have hpr := hC.plr (p := p) (by omega) (by omega)
    refine e_aload_n (i := 0) 9 dX8_isPassed_8 rfl rfl rfl ?_
    refine e_getr (j := 9) 12 fl_8_42 dX8_isPassed_9 at_1 rfl rfl tp_1_9 rfl ?_
    refine e_iload_n (i := 1) 13 dX8_isPassed_12 rfl rfl rfl ?_
    refine e_aald 14 dX8_isPassed_13 ar_18 (by decide) (by omega) (by omega) (tp_pledge (by omega) (by omega)) rfl ?_
    refine e_geti (j := 6) 17 fl_8_135 dX8_isPassed_14 (at_pledge (by omega) (by omega)) (by decide) rfl rfl (fun r14 => ?_)
    refine e_if_ne 20 50 dX8_isPassed_17 (by omega) (by decide) rfl (fun b17 => ?_) (fun b17 => ?_)
    · skip
      refine e_iconst 51 dX8_isPassed_50 rfl ?_
      refine e_zret dX8_isPassed_51 (by decide) ?_
      first | exact h1 (by omega) | exact h0 (by omega)
    · skip
      refine e_aload_n (i := 0) 21 dX8_isPassed_20 rfl rfl rfl ?_
      refine e_geti (j := 4) 24 fl_8_81 dX8_isPassed_21 at_1 (by decide) rfl rfl (fun r21 => ?_)
      refine e_aload_n (i := 0) 25 dX8_isPassed_24 rfl rfl rfl ?_
      refine e_getr (j := 9) 28 fl_8_42 dX8_isPassed_25 at_1 rfl rfl tp_1_9 rfl ?_
      refine e_iload_n (i := 1) 29 dX8_isPassed_28 rfl rfl rfl ?_
      refine e_aald 30 dX8_isPassed_29 ar_18 (by decide) (by omega) (by omega) (tp_pledge (by omega) (by omega)) rfl ?_
      refine e_geti (j := 3) 33 fl_8_208 dX8_isPassed_30 (at_pledge (by omega) (by omega)) (by decide) rfl rfl (fun r30 => ?_)
      refine e_isub 34 dX8_isPassed_33 rfl ?_
      refine e_aload_n (i := 0) 35 dX8_isPassed_34 rfl rfl rfl ?_
      refine e_getr (j := 0) 38 fl_8_12 dX8_isPassed_35 at_1 rfl rfl tp_1_0 rfl ?_
      refine e_getr (j := 4) 41 fl_8_167 dX8_isPassed_38 at_2 rfl rfl tp_2_4 rfl ?_
      refine e_iconst 42 dX8_isPassed_41 rfl ?_
      refine e_iald 43 dX8_isPassed_42 ar_6 (by decide) (by decide) rfl (fun r42 => ?_)
      refine e_icmp_lt 46 50 dX8_isPassed_43 (by omega) (by omega) (by decide) rfl (fun b43 => ?_) (fun b43 => ?_)
      · skip
        refine e_iconst 51 dX8_isPassed_50 rfl ?_
        refine e_zret dX8_isPassed_51 (by decide) ?_
        first | exact h1 (by omega) | exact h0 (by omega)
      · skip
        refine e_iconst 47 dX8_isPassed_46 rfl ?_
        refine e_goto 51 dX8_isPassed_47 (by decide) ?_
        refine e_zret dX8_isPassed_51 (by decide) ?_
        first | exact h1 (by omega) | exact h0 (by omega)
  · dsimp only [jpush]
    refine e_if_eq 8 50 dX8_isPassed_5 (by decide) (by decide) rfl (fun _ => ?_) (fun h => absurd h (by decide))
    refine e_iconst 51 dX8_isPassed_50 rfl ?_
    refine e_zret dX8_isPassed_51 (by decide) ?_
    first | exact h1 (by omega) | exact h0 (by omega)

/-- the hundredths that are left of a price -/
def rHun (a : Int → Int) (p : Int) : Int := if a (631 + a (710 + p)) = 0 then 100 else max 0 (100 - a 29 * ((a 708 - a (890 + p)) / 10))
theorem rMoth_hun {a : Int → Int} {p v : Int} : rMoth a p v = v * rHun a p / 100 := by
  unfold rMoth rHun
  split
  · omega
  · split
    · rw [show max 0 (100 - a 29 * ((a 708 - a (890 + p)) / 10)) = 0 by omega]
    · rw [show max 0 (100 - a 29 * ((a 708 - a (890 + p)) / 10)) = 100 - a 29 * ((a 708 - a (890 + p)) / 10) by omega]
theorem rHun_rng {a : Int → Int} {p : Int} (hm : 0 ≤ a 29 ∧ a 29 ≤ 20) (hd : 0 ≤ (a 708 - a (890 + p)) / 10 ∧ (a 708 - a (890 + p)) / 10 ≤ 30) : 0 ≤ rHun a p ∧ rHun a p ≤ 100 := by
  unfold rHun
  have := moth_rng hm hd
  split <;> omega
theorem c_hundredthsLeft {p : Int} {M : jM} {Q : Int → jM → Prop} (hC : CR M) (h0 : 0 ≤ p) (h1 : p < M 929 709) (h : Q (rHun (M 929) p) M) : jCt yX8_hundredthsLeft cX8_hundredthsLeft 2 (some .int) 1 [jR 1, jR (84 + p)] M Q := by
  refine jCt_of mt_yX8_hundredthsLeft (Nat.le_of_ble_eq_true rfl) (fun X => ?_)
  have hn := hC.cnt
  have hg := hC.rng
  have hu := hC.rule
  have hp := hC.pl h0 h1
  have hpr := hC.plr h0 h1
  have hk := hC.kind hpr.1.1 hpr.1.2
  have e0 : M (56 + M (84 + p) 0) 4 = M 929 (631 + M 929 (710 + p)) := by rw [hp.1.1]; exact hk.1.2.2.2.2
  have hd : (M 1 4 - M (84 + p) 3).tdiv 10 = (M 929 708 - M 929 (890 + p)) / 10 := by rw [Int.tdiv_eq_ediv_of_nonneg (by omega), hp.1.2.2.2.1, hn.2.2.2.2.2.2.1]
  have hr := moth_rng (m := M 929 29) (d := (M 929 708 - M 929 (890 + p)) / 10) (by omega) (by omega)
  refine e_aload_n (i := 0) 1 dX8_hundredthsLeft_0 rfl rfl rfl ?_
  refine e_getr (j := 5) 4 fl_8_30 dX8_hundredthsLeft_1 at_1 rfl rfl tp_1_5 rfl ?_
  refine e_aload_n (i := 1) 5 dX8_hundredthsLeft_4 rfl rfl rfl ?_
  refine e_geti (j := 0) 8 fl_8_141 dX8_hundredthsLeft_5 (at_pledge (by omega) (by omega)) (by decide) rfl rfl (fun r5 => ?_)
  refine e_aald 9 dX8_hundredthsLeft_8 ar_16 (by decide) (by omega) (by omega) (tp_kind (by omega) (by omega)) rfl ?_
  refine e_geti (j := 4) 12 fl_8_234 dX8_hundredthsLeft_9 (at_kind (by omega) (by omega)) (by decide) rfl rfl (fun r9 => ?_)
  refine e_if_ne 15 18 dX8_hundredthsLeft_12 (by omega) (by decide) rfl (fun b12 => ?_) (fun b12 => ?_)
  · skip
    refine e_iconst 19 dX8_hundredthsLeft_18 rfl ?_
    refine e_bipush 21 dX8_hundredthsLeft_19 (by decide) rfl ?_
    refine e_aload_n (i := 0) 22 dX8_hundredthsLeft_21 rfl rfl rfl ?_
    refine e_getr (j := 0) 25 fl_8_12 dX8_hundredthsLeft_22 at_1 rfl rfl tp_1_0 rfl ?_
    refine e_getr (j := 4) 28 fl_8_167 dX8_hundredthsLeft_25 at_2 rfl rfl tp_2_4 rfl ?_
    refine e_iconst 29 dX8_hundredthsLeft_28 rfl ?_
    refine e_iald 30 dX8_hundredthsLeft_29 ar_6 (by decide) (by decide) rfl (fun r29 => ?_)
    refine e_aload_n (i := 0) 31 dX8_hundredthsLeft_30 rfl rfl rfl ?_
    refine e_geti (j := 4) 34 fl_8_81 dX8_hundredthsLeft_31 at_1 (by decide) rfl rfl (fun r31 => ?_)
    refine e_aload_n (i := 1) 35 dX8_hundredthsLeft_34 rfl rfl rfl ?_
    refine e_geti (j := 3) 38 fl_8_208 dX8_hundredthsLeft_35 (at_pledge (by omega) (by omega)) (by decide) rfl rfl (fun r35 => ?_)
    refine e_isub 39 dX8_hundredthsLeft_38 rfl ?_
    refine e_bipush 41 dX8_hundredthsLeft_39 (by decide) rfl ?_
    refine e_idiv 42 dX8_hundredthsLeft_41 (by omega) (by decide) (by decide) rfl ?_
    rw [hd, hu.1.2.2.2.2.1]
    refine e_imul 43 dX8_hundredthsLeft_42 rfl ?_
    refine e_isub 44 dX8_hundredthsLeft_43 rfl ?_
    refine e_maxI 47 wd_875 dX8_hundredthsLeft_44 (by decide) (by omega) (Nat.le_of_ble_eq_true rfl) (jroom (by decide)) rfl ?_
    refine e_iret dX8_hundredthsLeft_47 ?_
    rw [show rHun (M 929) p = max 0 (100 - M 929 29 * ((M 929 708 - M 929 (890 + p)) / 10)) from if_neg (by omega)] at h
    exact h
  · skip
    refine e_bipush 17 dX8_hundredthsLeft_15 (by decide) rfl ?_
    refine e_iret dX8_hundredthsLeft_17 ?_
    rw [show rHun (M 929) p = 100 from if_pos (by omega)] at h
    exact h

theorem c_mothedLow {p : Int} {M : jM} {Q : Int → jM → Prop} (hC : CR M) (h0 : 0 ≤ p) (h1 : p < M 929 709) (h : Q (rMoth (M 929) p (M 929 (595 + M 929 (710 + p)))) M) : jCt yX8_mothedLow cX8_mothedLow 2 (some .int) 2 [jR 1, jR (84 + p)] M Q := by
  refine jCt_of mt_yX8_mothedLow (Nat.le_of_ble_eq_true rfl) (fun X => ?_)
  have hn := hC.cnt
  have hg := hC.rng
  have hu := hC.rule
  have hp := hC.pl h0 h1
  have hpr := hC.plr h0 h1
  have hk := hC.kind hpr.1.1 hpr.1.2
  have e0 : M (56 + M (84 + p) 0) 1 = M 929 (595 + M 929 (710 + p)) := by rw [hp.1.1]; exact hk.1.2.1
  have hh := rHun_rng (a := M 929) (p := p) (by omega) (by omega)
  have hv2 : 0 ≤ M 929 (595 + M 929 (710 + p)) * rHun (M 929) p := Int.mul_nonneg (by omega) hh.1
  have hv3 : M 929 (595 + M 929 (710 + p)) * rHun (M 929) p ≤ 999 * 100 := Int.mul_le_mul (by omega) hh.2 hh.1 (by omega)
  rw [rMoth_hun] at h
  refine e_aload_n (i := 0) 1 dX8_mothedLow_0 rfl rfl rfl ?_
  refine e_getr (j := 5) 4 fl_8_30 dX8_mothedLow_1 at_1 rfl rfl tp_1_5 rfl ?_
  refine e_aload_n (i := 1) 5 dX8_mothedLow_4 rfl rfl rfl ?_
  refine e_geti (j := 0) 8 fl_8_141 dX8_mothedLow_5 (at_pledge (by omega) (by omega)) (by decide) rfl rfl (fun r5 => ?_)
  refine e_aald 9 dX8_mothedLow_8 ar_16 (by decide) (by omega) (by omega) (tp_kind (by omega) (by omega)) rfl ?_
  refine e_geti (j := 1) 12 fl_8_225 dX8_mothedLow_9 (at_kind (by omega) (by omega)) (by decide) rfl rfl (fun r9 => ?_)
  refine e_aload_n (i := 0) 13 dX8_mothedLow_12 rfl rfl rfl ?_
  refine e_aload_n (i := 1) 14 dX8_mothedLow_13 rfl rfl rfl ?_
  refine e_callV 17 mt_yX8_hundredthsLeft mv_yX8_hundredthsLeft wd_871 (by decide) dX8_mothedLow_14 at_1 jc_8 rfl rfl rfl (Nat.le_of_ble_eq_true rfl) (jroom (by decide)) rfl (c_hundredthsLeft hC h0 h1 ?_)
  dsimp only [jpush]
  rw [e0]
  refine e_imul 18 dX8_mothedLow_17 rfl ?_
  refine e_bipush 20 dX8_mothedLow_18 (by decide) rfl ?_
  refine e_idiv 21 dX8_mothedLow_20 (by omega) (by decide) (by decide) rfl ?_
  refine e_iret dX8_mothedLow_21 ?_
  rw [Int.tdiv_eq_ediv_of_nonneg hv2]
  exact h

theorem c_mothedHigh {p : Int} {M : jM} {Q : Int → jM → Prop} (hC : CR M) (h0 : 0 ≤ p) (h1 : p < M 929 709) (h : Q (rMoth (M 929) p (M 929 (607 + M 929 (710 + p)))) M) : jCt yX8_mothedHigh cX8_mothedHigh 2 (some .int) 2 [jR 1, jR (84 + p)] M Q := by
  refine jCt_of mt_yX8_mothedHigh (Nat.le_of_ble_eq_true rfl) (fun X => ?_)
  have hn := hC.cnt
  have hg := hC.rng
  have hu := hC.rule
  have hp := hC.pl h0 h1
  have hpr := hC.plr h0 h1
  have hk := hC.kind hpr.1.1 hpr.1.2
  have e0 : M (56 + M (84 + p) 0) 2 = M 929 (607 + M 929 (710 + p)) := by rw [hp.1.1]; exact hk.1.2.2.1
  have hh := rHun_rng (a := M 929) (p := p) (by omega) (by omega)
  have hv2 : 0 ≤ M 929 (607 + M 929 (710 + p)) * rHun (M 929) p := Int.mul_nonneg (by omega) hh.1
  have hv3 : M 929 (607 + M 929 (710 + p)) * rHun (M 929) p ≤ 999 * 100 := Int.mul_le_mul (by omega) hh.2 hh.1 (by omega)
  rw [rMoth_hun] at h
  refine e_aload_n (i := 0) 1 dX8_mothedHigh_0 rfl rfl rfl ?_
  refine e_getr (j := 5) 4 fl_8_30 dX8_mothedHigh_1 at_1 rfl rfl tp_1_5 rfl ?_
  refine e_aload_n (i := 1) 5 dX8_mothedHigh_4 rfl rfl rfl ?_
  refine e_geti (j := 0) 8 fl_8_141 dX8_mothedHigh_5 (at_pledge (by omega) (by omega)) (by decide) rfl rfl (fun r5 => ?_)
  refine e_aald 9 dX8_mothedHigh_8 ar_16 (by decide) (by omega) (by omega) (tp_kind (by omega) (by omega)) rfl ?_
  refine e_geti (j := 2) 12 fl_8_231 dX8_mothedHigh_9 (at_kind (by omega) (by omega)) (by decide) rfl rfl (fun r9 => ?_)
  refine e_aload_n (i := 0) 13 dX8_mothedHigh_12 rfl rfl rfl ?_
  refine e_aload_n (i := 1) 14 dX8_mothedHigh_13 rfl rfl rfl ?_
  refine e_callV 17 mt_yX8_hundredthsLeft mv_yX8_hundredthsLeft wd_871 (by decide) dX8_mothedHigh_14 at_1 jc_8 rfl rfl rfl (Nat.le_of_ble_eq_true rfl) (jroom (by decide)) rfl (c_hundredthsLeft hC h0 h1 ?_)
  dsimp only [jpush]
  rw [e0]
  refine e_imul 18 dX8_mothedHigh_17 rfl ?_
  refine e_bipush 20 dX8_mothedHigh_18 (by decide) rfl ?_
  refine e_idiv 21 dX8_mothedHigh_20 (by omega) (by decide) (by decide) rfl ?_
  refine e_iret dX8_mothedHigh_21 ?_
  rw [Int.tdiv_eq_ediv_of_nonneg hv2]
  exact h

