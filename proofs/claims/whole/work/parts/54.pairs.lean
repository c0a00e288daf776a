/-! PAIRS: lend, gained -/
def fLast (lo hi most : Int) : Int := max (lo - 1) (min hi (most / 2))
/-- twice the price, but no more than most, over whole pence -/
def fSum (lo hi most : Int) : Int := (lo + fLast lo hi most) * (fLast lo hi most - lo + 1) + (hi - fLast lo hi most) * most
def rSF (most : Int) : Nat → Int → Int → Int
  | 0, _, s => s
  | n + 1, p, s => rSF most n (p + 1) (s + (if 2 * p < most then 2 * p else most))
theorem fSum_s {lo hi most : Int} (h : lo ≤ hi) : fSum lo hi most = (if 2 * lo < most then 2 * lo else most) + fSum (lo + 1) hi most := by
  unfold fSum
  by_cases e : 2 * lo ≤ most
  · have e1 : fLast (lo + 1) hi most = fLast lo hi most := by unfold fLast; omega
    rw [e1]
    have t : (if 2 * lo < most then 2 * lo else most) = 2 * lo := by split <;> omega
    rw [t]
    generalize fLast lo hi most = w
    have a : (lo + w) * (w - lo + 1) = (lo + w) * (w - lo) + (lo + w) := by rw [Int.mul_add, Int.mul_one]
    have b : (lo + 1 + w) * (w - (lo + 1) + 1) = (lo + w) * (w - lo) + (w - lo) := by
      rw [show w - (lo + 1) + 1 = w - lo by omega, show lo + 1 + w = (lo + w) + 1 by omega, Int.add_mul, Int.one_mul]
    rw [a, b]
    omega
  · have e1 : fLast (lo + 1) hi most = lo := by unfold fLast; omega
    have e2 : fLast lo hi most = lo - 1 := by unfold fLast; omega
    rw [e1, e2, if_neg (by omega)]
    have a : (lo + (lo - 1)) * (lo - 1 - lo + 1) = 0 := by rw [show lo - 1 - lo + 1 = 0 by omega, Int.mul_zero]
    have b : (lo + 1 + lo) * (lo - (lo + 1) + 1) = 0 := by rw [show lo - (lo + 1) + 1 = 0 by omega, Int.mul_zero]
    have c : (hi - (lo - 1)) * most = (hi - lo) * most + most := by rw [show hi - (lo - 1) = (hi - lo) + 1 by omega, Int.add_mul, Int.one_mul]
    rw [a, b, c]
    omega
theorem rSF_eq {most : Int} : ∀ (n : Nat) (p s hi : Int), p + n = hi + 1 → rSF most n p s = s + fSum p hi most
  | 0, p, s, hi, h => by
    have e : fLast p hi most = hi := by unfold fLast; omega
    unfold rSF fSum
    rw [e, show hi - p + 1 = 0 by omega, show hi - hi = 0 by omega, Int.mul_zero, Int.zero_mul]
    omega
  | n + 1, p, s, hi, h => by
    rw [rSF, rSF_eq n (p + 1) _ hi (by omega), fSum_s (show p ≤ hi by omega)]
    omega
theorem rSF_rng {most : Int} (hm : 0 ≤ most) : ∀ (n : Nat) (p s : Int), 0 ≤ p → p + n ≤ 1001 → s ≤ rSF most n p s ∧ rSF most n p s ≤ s + 2002 * n
  | 0, p, s, _, _ => by
    unfold rSF
    omega
  | n + 1, p, s, h0, h1 => by
    have ih := rSF_rng hm n (p + 1) (s + (if 2 * p < most then 2 * p else most)) (by omega) (by omega)
    rw [rSF]
    have t : 0 ≤ (if 2 * p < most then 2 * p else most) ∧ (if 2 * p < most then 2 * p else most) ≤ 2002 := by split <;> omega
    omega
theorem fSum_rng {lo hi most : Int} (h0 : 1 ≤ lo) (h1 : lo ≤ hi) (h2 : hi ≤ 999) (hm : 0 ≤ most) : 0 ≤ fSum lo hi most ∧ fSum lo hi most ≤ 2002 * 1000 := by
  have e := rSF_eq (most := most) (hi - lo + 1).toNat lo 0 hi (by omega)
  have r := rSF_rng hm (hi - lo + 1).toNat lo 0 (by omega) (by omega)
  omega
theorem mul_rng {x y A C : Int} (hx : 0 ≤ x ∧ x ≤ A) (hy : 0 ≤ y ∧ y ≤ C) : 0 ≤ x * y ∧ x * y ≤ A * C := ⟨Int.mul_nonneg hx.1 hy.1, Int.mul_le_mul hx.2 hy.2 hy.1 (by omega)⟩
def gainF (back i pn f glass loan : Int) : Int := 100 * back * i * pn + (100 - back) * ((100 - glass) * f - 200 * loan * pn)
theorem gainF_rng {back i pn f glass loan : Int} (h1 : 0 ≤ back ∧ back ≤ 100) (h2 : 0 ≤ i ∧ i ≤ 39560400) (h3 : 0 ≤ pn ∧ pn ≤ 999) (h4 : 0 ≤ f ∧ f ≤ 2002000) (h5 : 0 ≤ glass ∧ glass ≤ 99) (h6 : 0 ≤ loan ∧ loan ≤ 999) : -1000000000000000 ≤ gainF back i pn f glass loan ∧ gainF back i pn f glass loan ≤ 1000000000000000 := by
  unfold gainF
  have a := mul_rng (mul_rng (x := 100 * back) (A := 10000) (by omega) h2) h3
  have b := mul_rng (x := 100 - glass) (A := 100) (by omega) h4
  have c := mul_rng (x := 200 * loan) (A := 200 * 999) (by omega) h3
  have d : (100 - back) * ((100 - glass) * f - 200 * loan * pn) = (100 - back) * ((100 - glass) * f) - (100 - back) * (200 * loan * pn) := Int.mul_sub _ _ _
  have e := mul_rng (x := 100 - back) (A := 100) (by omega) b
  have g := mul_rng (x := 100 - back) (A := 100) (by omega) c
  rw [d]
  omega
/-- gained, by the row -/
def rGain (a : Int → Int) (k loan back hv : Int) : Int := gainF back (rChg a 0 loan hv) (a (607 + k) - a (595 + k) + 1) (fSum (a (595 + k)) (a (607 + k)) (2 * loan + rChg a 0 loan hv)) (a (619 + k)) loan
theorem rGain_rng {M : jM} (hC : CR M) {k loan back hv : Int} (hk : 0 ≤ k ∧ k < M 929 582) (hl : 1 ≤ loan ∧ loan ≤ 999) (hb : 0 ≤ back ∧ back ≤ 100) (hh : 0 ≤ hv ∧ hv ≤ 400) : -1000000000000000 ≤ rGain (M 929) k loan back hv ∧ rGain (M 929) k loan back hv ≤ 1000000000000000 := by
  have hq := (hC.kind hk.1 hk.2).2
  have hc := rChg_rng hC.rlaw hl hh
  have hf := fSum_rng (lo := M 929 (595 + k)) (hi := M 929 (607 + k)) (most := 2 * loan + rChg (M 929) 0 loan hv) (by omega) (by omega) (by omega) (by omega)
  exact gainF_rng hb (by omega) (by omega) (by omega) (by omega) (by omega)
def rLoan (f : Int → Int) : Nat → Int
  | 0 => 0
  | n + 1 => if 0 ≤ f ((n + 1 : Nat) : Int) then ((n + 1 : Nat) : Int) else rLoan f n
theorem c_pennies {k : Int} {M : jM} {Q : Int → jM → Prop} (hk : 0 ≤ k ∧ k < 12) (h : Q (M (56 + k) 2 - M (56 + k) 1 + 1) M) : jCt yX0_pennies cX0_pennies 1 (some .int) 1 [jR (56 + k)] M Q := by
  refine jCt_of mt_yX0_pennies (Nat.le_of_ble_eq_true rfl) (fun X => ?_)
  refine e_aload_n (i := 0) 1 dX0_pennies_0 rfl rfl rfl ?_
  refine e_geti (j := 2) 4 fl_0_16 dX0_pennies_1 (at_kind (by omega) (by omega)) (by decide) rfl rfl (fun r1 => ?_)
  refine e_aload_n (i := 0) 5 dX0_pennies_4 rfl rfl rfl ?_
  refine e_geti (j := 1) 8 fl_0_13 dX0_pennies_5 (at_kind (by omega) (by omega)) (by decide) rfl rfl (fun r5 => ?_)
  refine e_isub 9 dX0_pennies_8 rfl ?_
  refine e_iconst 10 dX0_pennies_9 rfl ?_
  refine e_iadd 11 dX0_pennies_10 rfl ?_
  refine e_iret dX0_pennies_11 ?_
  exact h

theorem c_fetched {k most : Int} {M : jM} {Q : Int → jM → Prop} (hk : 0 ≤ k ∧ k < 12) (hm : 0 ≤ most ∧ most ≤ 100000000) (hr : (1 ≤ M (56 + k) 1 ∧ M (56 + k) 1 ≤ 999) ∧ M (56 + k) 2 ≤ 999 ∧ 1 ≤ M (56 + k) 2) (h : Q (fSum (M (56 + k) 1) (M (56 + k) 2) most) M) : jCt yX0_fetchedUpTo cX0_fetchedUpTo 5 (some .long) 1 [jR (56 + k), jL most] M Q := by
  refine jCt_of mt_yX0_fetchedUpTo (Nat.le_of_ble_eq_true rfl) (fun X => ?_)
  have ed : most.tdiv 2 = most / 2 := Int.tdiv_eq_ediv_of_nonneg (by omega)
  refine e_aload_n (i := 0) 1 dX0_fetchedUpTo_0 rfl rfl rfl ?_
  refine e_geti (j := 1) 4 fl_0_13 dX0_fetchedUpTo_1 (at_kind (by omega) (by omega)) (by decide) rfl rfl (fun r1 => ?_)
  refine e_iconst 5 dX0_fetchedUpTo_4 rfl ?_
  refine e_isub 6 dX0_fetchedUpTo_5 rfl ?_
  refine e_i2l 7 dX0_fetchedUpTo_6 (by omega) rfl ?_
  refine e_aload_n (i := 0) 8 dX0_fetchedUpTo_7 rfl rfl rfl ?_
  refine e_geti (j := 2) 11 fl_0_16 dX0_fetchedUpTo_8 (at_kind (by omega) (by omega)) (by decide) rfl rfl (fun r8 => ?_)
  refine e_i2l 12 dX0_fetchedUpTo_11 (by omega) rfl ?_
  refine e_lload_n (i := 1) 13 dX0_fetchedUpTo_12 rfl rfl rfl ?_
  refine e_ldc2 (z := (2)) 16 (ix := 26) wd_919 (by decide) dX0_fetchedUpTo_13 rfl ?_
  refine e_ldiv 17 dX0_fetchedUpTo_16 (by omega) (by decide) (by decide) rfl ?_
  rw [ed]
  refine e_minL 20 wd_920 dX0_fetchedUpTo_17 (by omega) (by omega) (Nat.le_of_ble_eq_true rfl) (jroom (by decide)) rfl ?_
  refine e_maxL 23 wd_923 dX0_fetchedUpTo_20 (by omega) (by omega) (Nat.le_of_ble_eq_true rfl) (jroom (by decide)) rfl ?_
  refine e_lstore_n (i := 3) (lsn := [(3, _), (0, _), (1, _)]) 24 dX0_fetchedUpTo_23 rfl (by decide) rfl rfl ?_
  refine e_aload_n (i := 0) 25 dX0_fetchedUpTo_24 rfl rfl rfl ?_
  refine e_geti (j := 1) 28 fl_0_13 dX0_fetchedUpTo_25 (at_kind (by omega) (by omega)) (by decide) rfl rfl (fun r25 => ?_)
  refine e_i2l 29 dX0_fetchedUpTo_28 (by omega) rfl ?_
  refine e_lload_n (i := 3) 30 dX0_fetchedUpTo_29 rfl rfl rfl ?_
  refine e_ladd 31 dX0_fetchedUpTo_30 rfl ?_
  refine e_lload_n (i := 3) 32 dX0_fetchedUpTo_31 rfl rfl rfl ?_
  refine e_aload_n (i := 0) 33 dX0_fetchedUpTo_32 rfl rfl rfl ?_
  refine e_geti (j := 1) 36 fl_0_13 dX0_fetchedUpTo_33 (at_kind (by omega) (by omega)) (by decide) rfl rfl (fun r33 => ?_)
  refine e_i2l 37 dX0_fetchedUpTo_36 (by omega) rfl ?_
  refine e_lsub 38 dX0_fetchedUpTo_37 rfl ?_
  refine e_lconst1 39 dX0_fetchedUpTo_38 rfl ?_
  refine e_ladd 40 dX0_fetchedUpTo_39 rfl ?_
  refine e_lmul 41 dX0_fetchedUpTo_40 rfl ?_
  refine e_aload_n (i := 0) 42 dX0_fetchedUpTo_41 rfl rfl rfl ?_
  refine e_geti (j := 2) 45 fl_0_16 dX0_fetchedUpTo_42 (at_kind (by omega) (by omega)) (by decide) rfl rfl (fun r42 => ?_)
  refine e_i2l 46 dX0_fetchedUpTo_45 (by omega) rfl ?_
  refine e_lload_n (i := 3) 47 dX0_fetchedUpTo_46 rfl rfl rfl ?_
  refine e_lsub 48 dX0_fetchedUpTo_47 rfl ?_
  refine e_lload_n (i := 1) 49 dX0_fetchedUpTo_48 rfl rfl rfl ?_
  refine e_lmul 50 dX0_fetchedUpTo_49 rfl ?_
  refine e_ladd 51 dX0_fetchedUpTo_50 rfl ?_
  refine e_lret dX0_fetchedUpTo_51 ?_
  exact h

theorem c_gain {k loan back hv : Int} {M : jM} {Q : Int → jM → Prop} (hC : CR M) (hk : 0 ≤ k ∧ k < M 929 582) (hl : 1 ≤ loan ∧ loan ≤ 999) (hb : 0 ≤ back ∧ back ≤ 100) (hh : 0 ≤ hv ∧ hv ≤ 400) (h : Q (rGain (M 929) k loan back hv) M) : jCt yX1_gainParts cX1_gainParts 11 (some .long) 3 [jR 2, jR (56 + k), jI loan, jI back, jI hv] M Q := by
  refine jCt_of mt_yX1_gainParts (Nat.le_of_ble_eq_true rfl) (fun X => ?_)
  have hg := hC.rng
  have hq := hC.kind hk.1 hk.2
  have hc := rChg_rng hC.rlaw hl hh
  have hce := hC.lrel.chg (loan := loan) (hv := hv)
  refine e_aload_n (i := 0) 1 dX1_gainParts_0 rfl rfl rfl ?_
  refine e_iload_n (i := 2) 2 dX1_gainParts_1 rfl rfl rfl ?_
  refine e_iload 4 dX1_gainParts_2 rfl rfl ?_
  refine e_callV 7 mt_yX1_charge mv_yX1_charge wd_909 (by decide) dX1_gainParts_4 at_2 jc_1 rfl rfl rfl (Nat.le_of_ble_eq_true rfl) (jroom (by decide)) rfl (c_charge (by omega) (by omega) lw_2 hC.lrel.ok ?_)
  dsimp only [jpush]
  rw [hce]
  refine e_i2l 8 dX1_gainParts_7 (by omega) rfl ?_
  refine e_lstore (lsn := [(5, _), (0, _), (1, _), (2, _), (3, _), (4, _)]) 10 dX1_gainParts_8 (by decide) rfl rfl ?_
  refine e_aload_n (i := 1) 11 dX1_gainParts_10 rfl rfl rfl ?_
  refine e_callV 14 mt_yX0_pennies mv_yX0_pennies wd_910 (by decide) dX1_gainParts_11 (at_kind (by omega) (by omega)) jc_0 rfl rfl rfl (Nat.le_of_ble_eq_true rfl) (jroom (by decide)) rfl (c_pennies (by omega) ?_)
  dsimp only [jpush]
  refine e_i2l 15 dX1_gainParts_14 (by omega) rfl ?_
  refine e_lstore (lsn := [(7, _), (5, _), (0, _), (1, _), (2, _), (3, _), (4, _)]) 17 dX1_gainParts_15 (by decide) rfl rfl ?_
  refine e_bipush 19 dX1_gainParts_17 (by decide) rfl ?_
  refine e_aload_n (i := 1) 20 dX1_gainParts_19 rfl rfl rfl ?_
  refine e_geti (j := 3) 23 fl_1_65 dX1_gainParts_20 (at_kind (by omega) (by omega)) (by decide) rfl rfl (fun r20 => ?_)
  refine e_isub 24 dX1_gainParts_23 rfl ?_
  refine e_i2l 25 dX1_gainParts_24 (by omega) rfl ?_
  refine e_aload_n (i := 1) 26 dX1_gainParts_25 rfl rfl rfl ?_
  refine e_ldc2 (z := (2)) 29 (ix := 68) wd_914 (by decide) dX1_gainParts_26 rfl ?_
  refine e_iload_n (i := 2) 30 dX1_gainParts_29 rfl rfl rfl ?_
  refine e_i2l 31 dX1_gainParts_30 (by omega) rfl ?_
  refine e_lmul 32 dX1_gainParts_31 rfl ?_
  refine e_lload 34 dX1_gainParts_32 rfl rfl ?_
  refine e_ladd 35 dX1_gainParts_34 rfl ?_
  refine e_callV 38 mt_yX0_fetchedUpTo mv_yX0_fetchedUpTo wd_915 (by decide) dX1_gainParts_35 (at_kind (by omega) (by omega)) jc_0 rfl rfl rfl (Nat.le_of_ble_eq_true rfl) (jroom (by decide)) rfl (c_fetched (by omega) (by omega) (by omega) ?_)
  dsimp only [jpush]
  refine e_lmul 39 dX1_gainParts_38 rfl ?_
  refine e_lstore (lsn := [(9, _), (7, _), (5, _), (0, _), (1, _), (2, _), (3, _), (4, _)]) 41 dX1_gainParts_39 (by decide) rfl rfl ?_
  refine e_ldc2 (z := (100)) 44 (ix := 74) wd_926 (by decide) dX1_gainParts_41 rfl ?_
  refine e_iload_n (i := 3) 45 dX1_gainParts_44 rfl rfl rfl ?_
  refine e_i2l 46 dX1_gainParts_45 (by omega) rfl ?_
  refine e_lmul 47 dX1_gainParts_46 rfl ?_
  refine e_lload 49 dX1_gainParts_47 rfl rfl ?_
  refine e_lmul 50 dX1_gainParts_49 rfl ?_
  refine e_lload 52 dX1_gainParts_50 rfl rfl ?_
  refine e_lmul 53 dX1_gainParts_52 rfl ?_
  refine e_bipush 55 dX1_gainParts_53 (by decide) rfl ?_
  refine e_iload_n (i := 3) 56 dX1_gainParts_55 rfl rfl rfl ?_
  refine e_isub 57 dX1_gainParts_56 rfl ?_
  refine e_i2l 58 dX1_gainParts_57 (by omega) rfl ?_
  refine e_lload 60 dX1_gainParts_58 rfl rfl ?_
  refine e_ldc2 (z := (200)) 63 (ix := 76) wd_927 (by decide) dX1_gainParts_60 rfl ?_
  refine e_iload_n (i := 2) 64 dX1_gainParts_63 rfl rfl rfl ?_
  refine e_i2l 65 dX1_gainParts_64 (by omega) rfl ?_
  refine e_lmul 66 dX1_gainParts_65 rfl ?_
  refine e_lload 68 dX1_gainParts_66 rfl rfl ?_
  refine e_lmul 69 dX1_gainParts_68 rfl ?_
  refine e_lsub 70 dX1_gainParts_69 rfl ?_
  refine e_lmul 71 dX1_gainParts_70 rfl ?_
  refine e_ladd 72 dX1_gainParts_71 rfl ?_
  refine e_lret dX1_gainParts_72 ?_
  rw [hq.1.2.1, hq.1.2.2.1, hq.1.2.2.2.1]
  exact h

theorem l_gainedBy {X : jX} {k loan i back most : Int} {M : jM} {Q : Int → jM → Prop} (hk : 0 ≤ k ∧ k < 12) (hr : (1 ≤ M 929 (595 + k) ∧ M 929 (595 + k) ≤ M 929 (607 + k)) ∧ M 929 (607 + k) ≤ 999) (hg : 0 ≤ M 929 (619 + k) ∧ M 929 (619 + k) ≤ 99) (hi : 0 ≤ i ∧ i ≤ 39560400) (hb : 0 ≤ back ∧ back ≤ 100) (hl : 0 ≤ loan ∧ loan ≤ 999) (hm : 0 ≤ most ∧ most ≤ 100000000) : ∀ (n : Nat) (ii s : Int), 0 ≤ ii → ii + n = M 929 (607 + k) + 1 → Q (gainF back i (M 929 (607 + k) - M 929 (595 + k) + 1) (rSF most n ii s) (M 929 (619 + k)) loan) M → jE X yX12_gainedBy cX12_gainedBy 11 (some .long) 1 Q M 26 [(0, jR 928), (1, jI k), (2, jI loan), (3, jI i), (4, jI back), (5, jL most), (7, jL s), (9, jI ii)] [] := by
  intro n
  induction n with
  | zero =>
    intro ii s h0 hi3 h
    rw [rSF] at h
    refine e_iload 28 dX12_gainedBy_26 rfl rfl ?_
    refine e_aload_n (i := 0) 29 dX12_gainedBy_28 rfl rfl rfl ?_
    refine e_getr (j := 1) 32 fl_12_13 dX12_gainedBy_29 at_928 rfl rfl tp_928_1 rfl ?_
    refine e_sipush 35 dX12_gainedBy_32 (by decide) rfl ?_
    refine e_iload_n (i := 1) 36 dX12_gainedBy_35 rfl rfl rfl ?_
    refine e_iadd 37 dX12_gainedBy_36 rfl ?_
    refine e_iald 38 dX12_gainedBy_37 ar_929 (by omega) (by omega) rfl (fun r37 => ?_)
    refine e_icmp_gt 41 77 dX12_gainedBy_38 (by omega) (by omega) (by decide) rfl (fun b38 => ?_) (fun b38 => ?_)
    · skip
      refine e_aload_n (i := 0) 78 dX12_gainedBy_77 rfl rfl rfl ?_
      refine e_getr (j := 1) 81 fl_12_13 dX12_gainedBy_78 at_928 rfl rfl tp_928_1 rfl ?_
      refine e_sipush 84 dX12_gainedBy_81 (by decide) rfl ?_
      refine e_iload_n (i := 1) 85 dX12_gainedBy_84 rfl rfl rfl ?_
      refine e_iadd 86 dX12_gainedBy_85 rfl ?_
      refine e_iald 87 dX12_gainedBy_86 ar_929 (by omega) (by omega) rfl (fun r86 => ?_)
      refine e_aload_n (i := 0) 88 dX12_gainedBy_87 rfl rfl rfl ?_
      refine e_getr (j := 1) 91 fl_12_13 dX12_gainedBy_88 at_928 rfl rfl tp_928_1 rfl ?_
      refine e_sipush 94 dX12_gainedBy_91 (by decide) rfl ?_
      refine e_iload_n (i := 1) 95 dX12_gainedBy_94 rfl rfl rfl ?_
      refine e_iadd 96 dX12_gainedBy_95 rfl ?_
      refine e_iald 97 dX12_gainedBy_96 ar_929 (by omega) (by omega) rfl (fun r96 => ?_)
      refine e_isub 98 dX12_gainedBy_97 rfl ?_
      refine e_iconst 99 dX12_gainedBy_98 rfl ?_
      refine e_iadd 100 dX12_gainedBy_99 rfl ?_
      refine e_i2l 101 dX12_gainedBy_100 (by omega) rfl ?_
      refine e_lstore (lsn := [(9, _), (0, _), (1, _), (2, _), (3, _), (4, _), (5, _), (7, _)]) 103 dX12_gainedBy_101 (by decide) rfl rfl ?_
      refine e_ldc2 (z := (100)) 106 (ix := 269) wd_1623 (by decide) dX12_gainedBy_103 rfl ?_
      refine e_lload 108 dX12_gainedBy_106 rfl rfl ?_
      refine e_lmul 109 dX12_gainedBy_108 rfl ?_
      refine e_iload 111 dX12_gainedBy_109 rfl rfl ?_
      refine e_i2l 112 dX12_gainedBy_111 (by omega) rfl ?_
      refine e_lmul 113 dX12_gainedBy_112 rfl ?_
      refine e_iload_n (i := 3) 114 dX12_gainedBy_113 rfl rfl rfl ?_
      refine e_i2l 115 dX12_gainedBy_114 (by omega) rfl ?_
      refine e_lmul 116 dX12_gainedBy_115 rfl ?_
      refine e_ldc2 (z := (100)) 119 (ix := 269) wd_1623 (by decide) dX12_gainedBy_116 rfl ?_
      refine e_iload 121 dX12_gainedBy_119 rfl rfl ?_
      refine e_i2l 122 dX12_gainedBy_121 (by omega) rfl ?_
      refine e_lsub 123 dX12_gainedBy_122 rfl ?_
      refine e_ldc2 (z := (100)) 126 (ix := 269) wd_1623 (by decide) dX12_gainedBy_123 rfl ?_
      refine e_aload_n (i := 0) 127 dX12_gainedBy_126 rfl rfl rfl ?_
      refine e_getr (j := 1) 130 fl_12_13 dX12_gainedBy_127 at_928 rfl rfl tp_928_1 rfl ?_
      refine e_sipush 133 dX12_gainedBy_130 (by decide) rfl ?_
      refine e_iload_n (i := 1) 134 dX12_gainedBy_133 rfl rfl rfl ?_
      refine e_iadd 135 dX12_gainedBy_134 rfl ?_
      refine e_iald 136 dX12_gainedBy_135 ar_929 (by omega) (by omega) rfl (fun r135 => ?_)
      refine e_i2l 137 dX12_gainedBy_136 (by omega) rfl ?_
      refine e_lsub 138 dX12_gainedBy_137 rfl ?_
      refine e_lload 140 dX12_gainedBy_138 rfl rfl ?_
      refine e_lmul 141 dX12_gainedBy_140 rfl ?_
      refine e_ldc2 (z := (200)) 144 (ix := 271) wd_1628 (by decide) dX12_gainedBy_141 rfl ?_
      refine e_lload 146 dX12_gainedBy_144 rfl rfl ?_
      refine e_lmul 147 dX12_gainedBy_146 rfl ?_
      refine e_iload_n (i := 2) 148 dX12_gainedBy_147 rfl rfl rfl ?_
      refine e_i2l 149 dX12_gainedBy_148 (by omega) rfl ?_
      refine e_lmul 150 dX12_gainedBy_149 rfl ?_
      refine e_lsub 151 dX12_gainedBy_150 rfl ?_
      refine e_lmul 152 dX12_gainedBy_151 rfl ?_
      refine e_ladd 153 dX12_gainedBy_152 rfl ?_
      refine e_lret dX12_gainedBy_153 ?_
      have e : 100 * (M 929 (607 + k) - M 929 (595 + k) + 1) * back * i + (100 - back) * ((100 - M 929 (619 + k)) * s - 200 * (M 929 (607 + k) - M 929 (595 + k) + 1) * loan) = gainF back i (M 929 (607 + k) - M 929 (595 + k) + 1) s (M 929 (619 + k)) loan := by
        unfold gainF
        generalize M 929 (607 + k) - M 929 (595 + k) + 1 = x
        rw [show 100 * x * back * i = 100 * back * i * x by ac_rfl, show 200 * x * loan = 200 * loan * x by ac_rfl]
      rw [e]
      exact h
    · omega
  | succ n ih =>
    intro ii s h0 hi3 h
    rw [rSF] at h
    refine e_iload 28 dX12_gainedBy_26 rfl rfl ?_
    refine e_aload_n (i := 0) 29 dX12_gainedBy_28 rfl rfl rfl ?_
    refine e_getr (j := 1) 32 fl_12_13 dX12_gainedBy_29 at_928 rfl rfl tp_928_1 rfl ?_
    refine e_sipush 35 dX12_gainedBy_32 (by decide) rfl ?_
    refine e_iload_n (i := 1) 36 dX12_gainedBy_35 rfl rfl rfl ?_
    refine e_iadd 37 dX12_gainedBy_36 rfl ?_
    refine e_iald 38 dX12_gainedBy_37 ar_929 (by omega) (by omega) rfl (fun r37 => ?_)
    refine e_icmp_gt 41 77 dX12_gainedBy_38 (by omega) (by omega) (by decide) rfl (fun b38 => ?_) (fun b38 => ?_)
    · omega
    · skip
      refine e_lload 43 dX12_gainedBy_41 rfl rfl ?_
      refine e_ldc2 (z := (2)) 46 (ix := 243) wd_1546 (by decide) dX12_gainedBy_43 rfl ?_
      refine e_iload 48 dX12_gainedBy_46 rfl rfl ?_
      refine e_i2l 49 dX12_gainedBy_48 (by omega) rfl ?_
      refine e_lmul 50 dX12_gainedBy_49 rfl ?_
      refine e_lload 52 dX12_gainedBy_50 rfl rfl ?_
      refine e_lcmp 53 dX12_gainedBy_52 (by omega) (by omega) rfl (fun b52 => ?_) (fun b52 => ?_) (fun b52 => ?_)
      · skip
        refine e_if_ge 56 66 dX12_gainedBy_53 (by decide) (by decide) rfl (fun h => absurd h (by decide)) (fun _ => ?_)
        refine e_ldc2 (z := (2)) 59 (ix := 243) wd_1546 (by decide) dX12_gainedBy_56 rfl ?_
        refine e_iload 61 dX12_gainedBy_59 rfl rfl ?_
        refine e_i2l 62 dX12_gainedBy_61 (by omega) rfl ?_
        refine e_lmul 63 dX12_gainedBy_62 rfl ?_
        refine e_goto 68 dX12_gainedBy_63 (by decide) ?_
        refine e_ladd 69 dX12_gainedBy_68 rfl ?_
        refine e_lstore (lsn := [(7, _), (0, _), (1, _), (2, _), (3, _), (4, _), (5, _), (9, _)]) 71 dX12_gainedBy_69 (by decide) rfl rfl ?_
        refine e_iinc (lsn := [(9, _), (7, _), (0, _), (1, _), (2, _), (3, _), (4, _), (5, _)]) 74 dX12_gainedBy_71 rfl (by decide) rfl rfl ?_
        refine e_goto 26 dX12_gainedBy_74 (by decide) ?_
        refine e_ls (ls2 := [(0, _), (1, _), (2, _), (3, _), (4, _), (5, _), (7, _), (9, _)]) rfl ?_
        first
          | (exfalso; omega)
          | (rw [if_pos (by omega)] at h
             exact ih _ _ (by omega) (by omega) h)
      · skip
        refine e_if_ge 56 66 dX12_gainedBy_53 (by decide) (by decide) rfl (fun _ => ?_) (fun h => absurd h (by decide))
        refine e_lload 68 dX12_gainedBy_66 rfl rfl ?_
        refine e_ladd 69 dX12_gainedBy_68 rfl ?_
        refine e_lstore (lsn := [(7, _), (0, _), (1, _), (2, _), (3, _), (4, _), (5, _), (9, _)]) 71 dX12_gainedBy_69 (by decide) rfl rfl ?_
        refine e_iinc (lsn := [(9, _), (7, _), (0, _), (1, _), (2, _), (3, _), (4, _), (5, _)]) 74 dX12_gainedBy_71 rfl (by decide) rfl rfl ?_
        refine e_goto 26 dX12_gainedBy_74 (by decide) ?_
        refine e_ls (ls2 := [(0, _), (1, _), (2, _), (3, _), (4, _), (5, _), (7, _), (9, _)]) rfl ?_
        first
          | (exfalso; omega)
          | (rw [if_neg (by omega)] at h
             exact ih _ _ (by omega) (by omega) h)
      · skip
        refine e_if_ge 56 66 dX12_gainedBy_53 (by decide) (by decide) rfl (fun _ => ?_) (fun h => absurd h (by decide))
        refine e_lload 68 dX12_gainedBy_66 rfl rfl ?_
        refine e_ladd 69 dX12_gainedBy_68 rfl ?_
        refine e_lstore (lsn := [(7, _), (0, _), (1, _), (2, _), (3, _), (4, _), (5, _), (9, _)]) 71 dX12_gainedBy_69 (by decide) rfl rfl ?_
        refine e_iinc (lsn := [(9, _), (7, _), (0, _), (1, _), (2, _), (3, _), (4, _), (5, _)]) 74 dX12_gainedBy_71 rfl (by decide) rfl rfl ?_
        refine e_goto 26 dX12_gainedBy_74 (by decide) ?_
        refine e_ls (ls2 := [(0, _), (1, _), (2, _), (3, _), (4, _), (5, _), (7, _), (9, _)]) rfl ?_
        first
          | (exfalso; omega)
          | (rw [if_neg (by omega)] at h
             exact ih _ _ (by omega) (by omega) h)

theorem m_gain {k loan back hv : Int} {M : jM} {Q : Int → jM → Prop} (hC : CR M) (hk : 0 ≤ k ∧ k < M 929 582) (hl : 1 ≤ loan ∧ loan ≤ 999) (hb : 0 ≤ back ∧ back ≤ 100) (hh : 0 ≤ hv ∧ hv ≤ 400) (h : Q (rGain (M 929) k loan back hv) M) : jCt yX12_gainedBy cX12_gainedBy 11 (some .long) 1 [jR 928, jI k, jI loan, jI (rChg (M 929) 0 loan hv), jI back] M Q := by
  refine jCt_of mt_yX12_gainedBy (Nat.le_of_ble_eq_true rfl) (fun X => ?_)
  have hg := hC.rng
  have hq := hC.kind hk.1 hk.2
  have hc := rChg_rng hC.rlaw hl hh
  refine e_ldc2 (z := (2)) 3 (ix := 243) wd_1546 (by decide) dX12_gainedBy_0 rfl ?_
  refine e_iload_n (i := 2) 4 dX12_gainedBy_3 rfl rfl rfl ?_
  refine e_i2l 5 dX12_gainedBy_4 (by omega) rfl ?_
  refine e_lmul 6 dX12_gainedBy_5 rfl ?_
  refine e_iload_n (i := 3) 7 dX12_gainedBy_6 rfl rfl rfl ?_
  refine e_i2l 8 dX12_gainedBy_7 (by omega) rfl ?_
  refine e_ladd 9 dX12_gainedBy_8 rfl ?_
  refine e_lstore (lsn := [(5, _), (0, _), (1, _), (2, _), (3, _), (4, _)]) 11 dX12_gainedBy_9 (by decide) rfl rfl ?_
  refine e_lconst0 12 dX12_gainedBy_11 rfl ?_
  refine e_lstore (lsn := [(7, _), (5, _), (0, _), (1, _), (2, _), (3, _), (4, _)]) 14 dX12_gainedBy_12 (by decide) rfl rfl ?_
  refine e_aload_n (i := 0) 15 dX12_gainedBy_14 rfl rfl rfl ?_
  refine e_getr (j := 1) 18 fl_12_13 dX12_gainedBy_15 at_928 rfl rfl tp_928_1 rfl ?_
  refine e_sipush 21 dX12_gainedBy_18 (by decide) rfl ?_
  refine e_iload_n (i := 1) 22 dX12_gainedBy_21 rfl rfl rfl ?_
  refine e_iadd 23 dX12_gainedBy_22 rfl ?_
  refine e_iald 24 dX12_gainedBy_23 ar_929 (by omega) (by omega) rfl (fun r23 => ?_)
  refine e_istore (lsn := [(9, _), (7, _), (5, _), (0, _), (1, _), (2, _), (3, _), (4, _)]) 26 dX12_gainedBy_24 (by decide) rfl rfl ?_
  refine e_ls (ls2 := [(0, _), (1, _), (2, _), (3, _), (4, _), (5, _), (7, _), (9, _)]) rfl ?_
  refine l_gainedBy (i := rChg (M 929) 0 loan hv) (by omega) (by omega) (by omega) (by omega) hb (by omega) (by omega) (M 929 (607 + k) + 1 - M 929 (595 + k)).toNat _ 0 (by omega) (by omega) ?_
  rw [rSF_eq _ _ _ (M 929 (607 + k)) (by omega), Int.zero_add]
  exact h

theorem l_lend {X : jX} {k back hv : Int} {M : jM} {Q : Int → jM → Prop} (hC : CR M) (hk : 0 ≤ k ∧ k < M 929 582) (hb : 0 ≤ back ∧ back ≤ 100) (hh : 1 ≤ hv ∧ hv ≤ 52) : ∀ n : Nat, (n : Int) ≤ 999 → Q (rLoan (fun x => rGain (M 929) k x back hv) n) M → ∀ ii : Int, ii = n → jE X yX11_lend cX11_lend 5 (some .int) 4 Q M 49 [(0, jR 0), (1, jI k), (2, jI back), (3, jI hv), (4, jI ii)] [] := by
  intro n
  have hg := hC.rng
  have htr := rTop_rng hC.rlaw
  induction n with
  | zero =>
    intro hn h ii hii
    rw [rLoan] at h
    refine e_iload 51 dX11_lend_49 rfl rfl ?_
    refine e_iconst 52 dX11_lend_51 rfl ?_
    refine e_icmp_lt 55 92 dX11_lend_52 (by omega) (by decide) (by decide) rfl (fun b52 => ?_) (fun b52 => ?_)
    · skip
      refine e_iconst 93 dX11_lend_92 rfl ?_
      refine e_iret dX11_lend_93 ?_
      exact h
    · omega
  | succ n ih =>
    intro hn h ii hii
    have hgr := rGain_rng hC (loan := ii) hk (by omega) hb (show 0 ≤ hv ∧ hv ≤ 400 by omega)
    rw [rLoan, ← hii] at h
    refine e_iload 51 dX11_lend_49 rfl rfl ?_
    refine e_iconst 52 dX11_lend_51 rfl ?_
    refine e_icmp_lt 55 92 dX11_lend_52 (by omega) (by decide) (by decide) rfl (fun b52 => ?_) (fun b52 => ?_)
    · omega
    · skip
      refine e_aload_n (i := 0) 56 dX11_lend_55 rfl rfl rfl ?_
      refine e_getr (j := 0) 59 fl_11_10 dX11_lend_56 at_0 rfl rfl tp_0_0 rfl ?_
      refine e_getr (j := 0) 62 fl_11_73 dX11_lend_59 at_1 rfl rfl tp_1_0 rfl ?_
      refine e_aload_n (i := 0) 63 dX11_lend_62 rfl rfl rfl ?_
      refine e_getr (j := 0) 66 fl_11_10 dX11_lend_63 at_0 rfl rfl tp_0_0 rfl ?_
      refine e_getr (j := 5) 69 fl_11_125 dX11_lend_66 at_1 rfl rfl tp_1_5 rfl ?_
      refine e_iload_n (i := 1) 70 dX11_lend_69 rfl rfl rfl ?_
      refine e_aald 71 dX11_lend_70 ar_16 (by decide) (by omega) (by omega) (tp_kind (by omega) (by omega)) rfl ?_
      refine e_iload 73 dX11_lend_71 rfl rfl ?_
      refine e_iload_n (i := 2) 74 dX11_lend_73 rfl rfl rfl ?_
      refine e_iload_n (i := 3) 75 dX11_lend_74 rfl rfl rfl ?_
      refine e_callV 78 mt_yX1_gainParts mv_yX1_gainParts wd_905 (by decide) dX11_lend_75 at_2 jc_1 rfl rfl rfl (Nat.le_of_ble_eq_true rfl) (jroom (by decide)) rfl (c_gain hC (by omega) (by omega) (by omega) (by omega) ?_)
      dsimp only [jpush]
      refine e_lconst0 79 dX11_lend_78 rfl ?_
      refine e_lcmp 80 dX11_lend_79 (by omega) (by decide) rfl (fun b79 => ?_) (fun b79 => ?_) (fun b79 => ?_)
      · skip
        refine e_if_lt 83 86 dX11_lend_80 (by decide) (by decide) rfl (fun _ => ?_) (fun h => absurd h (by decide))
        refine e_iinc (lsn := [(4, _), (0, _), (1, _), (2, _), (3, _)]) 89 dX11_lend_86 rfl (by decide) rfl rfl ?_
        refine e_goto 49 dX11_lend_89 (by decide) ?_
        refine e_ls (ls2 := [(0, _), (1, _), (2, _), (3, _), (4, _)]) rfl ?_
        first
          | (exfalso; omega)
          | (rw [if_neg (by omega)] at h
             exact ih (by omega) h _ (by omega))
      · skip
        refine e_if_lt 83 86 dX11_lend_80 (by decide) (by decide) rfl (fun h => absurd h (by decide)) (fun _ => ?_)
        refine e_iload 85 dX11_lend_83 rfl rfl ?_
        refine e_iret dX11_lend_85 ?_
        first
          | (exfalso; omega)
          | (rw [if_pos (by omega)] at h
             exact h)
      · skip
        refine e_if_lt 83 86 dX11_lend_80 (by decide) (by decide) rfl (fun h => absurd h (by decide)) (fun _ => ?_)
        refine e_iload 85 dX11_lend_83 rfl rfl ?_
        refine e_iret dX11_lend_85 ?_
        first
          | (exfalso; omega)
          | (rw [if_pos (by omega)] at h
             exact h)

theorem lm_lend {X : jX} {k back hv : Int} {M : jM} {Q : Int → jM → Prop} (hC : CR M) (hk : 0 ≤ k ∧ k < M 929 582) (hb : 0 ≤ back ∧ back ≤ 100) (hh : 1 ≤ hv ∧ hv ≤ 52) {tt : Int} : ∀ n : Nat, (n : Int) ≤ rTop (M 929) 0 → Q (rLoan (fun x => rGain (M 929) k x back hv) n) M → ∀ ii : Int, ii = n → jE X yX12_lend cX12_lend 6 (some .int) 4 Q M 77 [(0, jR 928), (1, jI k), (2, jI back), (3, jI hv), (4, jI tt), (5, jI ii)] [] := by
  intro n
  have hg := hC.rng
  have htr := rTop_rng hC.rlaw
  induction n with
  | zero =>
    intro hn h ii hii
    rw [rLoan] at h
    refine e_iload 79 dX12_lend_77 rfl rfl ?_
    refine e_if_le 82 112 dX12_lend_79 (by omega) (by decide) rfl (fun b79 => ?_) (fun b79 => ?_)
    · skip
      refine e_iconst 113 dX12_lend_112 rfl ?_
      refine e_iret dX12_lend_113 ?_
      exact h
    · omega
  | succ n ih =>
    intro hn h ii hii
    have hgr := rGain_rng hC (loan := ii) hk (by omega) hb (show 0 ≤ hv ∧ hv ≤ 400 by omega)
    rw [rLoan, ← hii] at h
    refine e_iload 79 dX12_lend_77 rfl rfl ?_
    refine e_if_le 82 112 dX12_lend_79 (by omega) (by decide) rfl (fun b79 => ?_) (fun b79 => ?_)
    · omega
    · skip
      refine e_aload_n (i := 0) 83 dX12_lend_82 rfl rfl rfl ?_
      refine e_iload_n (i := 1) 84 dX12_lend_83 rfl rfl rfl ?_
      refine e_iload 86 dX12_lend_84 rfl rfl ?_
      refine e_aload_n (i := 0) 87 dX12_lend_86 rfl rfl rfl ?_
      refine e_iconst 88 dX12_lend_87 rfl ?_
      refine e_iload 90 dX12_lend_88 rfl rfl ?_
      refine e_iload_n (i := 3) 91 dX12_lend_90 rfl rfl rfl ?_
      refine e_callV 94 mt_yX12_interestBy mv_yX12_interestBy wd_1487 (by decide) dX12_lend_91 at_928 jc_12 rfl rfl rfl (Nat.le_of_ble_eq_true rfl) (jroom (by decide)) rfl (m_interestBy (by decide) (by omega) (by omega) hC.rlaw (fun w91 => ?_) (fun w91 => ?_))
      · dsimp only [jpush]
        refine e_iload_n (i := 2) 95 dX12_lend_94 rfl rfl rfl ?_
        refine e_callV 98 mt_yX12_gainedBy mv_yX12_gainedBy wd_1624 (by decide) dX12_lend_95 at_928 jc_12 rfl rfl rfl (Nat.le_of_ble_eq_true rfl) (jroom (by decide)) rfl (m_gain (hv := hv) hC (by omega) (by omega) (by omega) (by omega) ?_)
        dsimp only [jpush]
        refine e_lconst0 99 dX12_lend_98 rfl ?_
        refine e_lcmp 100 dX12_lend_99 (by omega) (by decide) rfl (fun b99 => ?_) (fun b99 => ?_) (fun b99 => ?_)
        · skip
          refine e_if_lt 103 106 dX12_lend_100 (by decide) (by decide) rfl (fun _ => ?_) (fun h => absurd h (by decide))
          refine e_iinc (lsn := [(5, _), (0, _), (1, _), (2, _), (3, _), (4, _)]) 109 dX12_lend_106 rfl (by decide) rfl rfl ?_
          refine e_goto 77 dX12_lend_109 (by decide) ?_
          refine e_ls (ls2 := [(0, _), (1, _), (2, _), (3, _), (4, _), (5, _)]) rfl ?_
          first
            | (exfalso; omega)
            | (rw [if_neg (by omega)] at h
               exact ih (by omega) h _ (by omega))
        · skip
          refine e_if_lt 103 106 dX12_lend_100 (by decide) (by decide) rfl (fun h => absurd h (by decide)) (fun _ => ?_)
          refine e_iload 105 dX12_lend_103 rfl rfl ?_
          refine e_iret dX12_lend_105 ?_
          first
            | (exfalso; omega)
            | (rw [if_pos (by omega)] at h
               exact h)
        · skip
          refine e_if_lt 103 106 dX12_lend_100 (by decide) (by decide) rfl (fun h => absurd h (by decide)) (fun _ => ?_)
          refine e_iload 105 dX12_lend_103 rfl rfl ?_
          refine e_iret dX12_lend_105 ?_
          first
            | (exfalso; omega)
            | (rw [if_pos (by omega)] at h
               exact h)
      · omega

theorem c_lend {k back hv : Int} {M : jM} {Q : Int → jM → Prop} (hC : CR M) (hkk : -2147483648 ≤ k ∧ k ≤ 2147483647) (hbb : -2147483648 ≤ back ∧ back ≤ 2147483647) (hhh : -2147483648 ≤ hv ∧ hv ≤ 2147483647) (h2 : k < 0 ∨ M 929 582 ≤ k → Q (-2) M) (h3 : (0 ≤ k ∧ k < M 929 582) ∧ (back < 0 ∨ 100 < back ∨ hv < 1 ∨ 52 < hv) → Q (-3) M) (h0 : (0 ≤ k ∧ k < M 929 582) ∧ (0 ≤ back ∧ back ≤ 100) ∧ 1 ≤ hv ∧ hv ≤ 52 → Q (rLoan (fun x => rGain (M 929) k x back hv) (rTop (M 929) 0).toNat) M) : jCt yX11_lend cX11_lend 5 (some .int) 4 [jR 0, jI k, jI back, jI hv] M Q := by
  refine jCt_of mt_yX11_lend (Nat.le_of_ble_eq_true rfl) (fun X => ?_)
  have hn := hC.cnt
  have hg := hC.rng
  have htr := rTop_rng hC.rlaw
  have htp := hC.lrel.top
  refine e_aload_n (i := 0) 1 dX11_lend_0 rfl rfl rfl ?_
  refine e_getr (j := 0) 4 fl_11_10 dX11_lend_1 at_0 rfl rfl tp_0_0 rfl ?_
  refine e_iload_n (i := 1) 5 dX11_lend_4 rfl rfl rfl ?_
  refine e_callV 8 mt_yX8_hasKind mv_yX8_hasKind wd_903 (by decide) dX11_lend_5 at_1 jc_8 rfl rfl rfl (Nat.le_of_ble_eq_true rfl) (jroom (by decide)) rfl (c_hasKind (by omega) (fun w5 => ?_) (fun w5 => ?_))
  · dsimp only [jpush]
    refine e_if_ne 11 14 dX11_lend_8 (by decide) (by decide) rfl (fun _ => ?_) (fun h => absurd h (by decide))
    refine e_iload_n (i := 2) 15 dX11_lend_14 rfl rfl rfl ?_
    refine e_iconst 16 dX11_lend_15 rfl ?_
    refine e_bipush 18 dX11_lend_16 (by decide) rfl ?_
    refine e_callS 21 mt_yX11_within ms_yX11_within wd_531 (by decide) dX11_lend_18 rfl rfl (Nat.le_of_ble_eq_true rfl) (jroom (by decide)) rfl (c_within (by omega) (by omega) (by omega) (fun w18 => ?_) (fun w18 => ?_))
    · dsimp only [jpush]
      refine e_if_eq 24 34 dX11_lend_21 (by decide) (by decide) rfl (fun h => absurd h (by decide)) (fun _ => ?_)
      refine e_iload_n (i := 3) 25 dX11_lend_24 rfl rfl rfl ?_
      refine e_iconst 26 dX11_lend_25 rfl ?_
      refine e_bipush 28 dX11_lend_26 (by decide) rfl ?_
      refine e_callS 31 mt_yX11_within ms_yX11_within wd_531 (by decide) dX11_lend_28 rfl rfl (Nat.le_of_ble_eq_true rfl) (jroom (by decide)) rfl (c_within (by omega) (by omega) (by omega) (fun w28 => ?_) (fun w28 => ?_))
      · dsimp only [jpush]
        refine e_if_ne 34 37 dX11_lend_31 (by decide) (by decide) rfl (fun _ => ?_) (fun h => absurd h (by decide))
        refine e_aload_n (i := 0) 38 dX11_lend_37 rfl rfl rfl ?_
        refine e_getr (j := 0) 41 fl_11_10 dX11_lend_38 at_0 rfl rfl tp_0_0 rfl ?_
        refine e_getr (j := 0) 44 fl_11_73 dX11_lend_41 at_1 rfl rfl tp_1_0 rfl ?_
        refine e_callV 47 mt_yX1_greatest mv_yX1_greatest wd_904 (by decide) dX11_lend_44 at_2 jc_1 rfl rfl rfl (Nat.le_of_ble_eq_true rfl) (jroom (by decide)) rfl (c_greatest lw_2 hC.lrel.ok ?_)
        dsimp only [jpush]
        rw [htp]
        refine e_istore (lsn := [(4, _), (0, _), (1, _), (2, _), (3, _)]) 49 dX11_lend_47 (by decide) rfl rfl ?_
        refine e_ls (ls2 := [(0, _), (1, _), (2, _), (3, _), (4, _)]) rfl ?_
        exact l_lend hC (by omega) (by omega) (by omega) (rTop (M 929) 0).toNat (by omega) (h0 (by omega)) _ (by omega)
      · dsimp only [jpush]
        refine e_if_ne 34 37 dX11_lend_31 (by decide) (by decide) rfl (fun h => absurd h (by decide)) (fun _ => ?_)
        refine e_bipush 36 dX11_lend_34 (by decide) rfl ?_
        refine e_iret dX11_lend_36 ?_
        first | exact h2 (by omega) | exact h3 (by omega)
    · dsimp only [jpush]
      refine e_if_eq 24 34 dX11_lend_21 (by decide) (by decide) rfl (fun _ => ?_) (fun h => absurd h (by decide))
      refine e_bipush 36 dX11_lend_34 (by decide) rfl ?_
      refine e_iret dX11_lend_36 ?_
      first | exact h2 (by omega) | exact h3 (by omega)
  · dsimp only [jpush]
    refine e_if_ne 11 14 dX11_lend_8 (by decide) (by decide) rfl (fun h => absurd h (by decide)) (fun _ => ?_)
    refine e_bipush 13 dX11_lend_11 (by decide) rfl ?_
    refine e_iret dX11_lend_13 ?_
    first | exact h2 (by omega) | exact h3 (by omega)

theorem m_lend {k back hv : Int} {M : jM} {Q : Int → jM → Prop} (hC : CR M) (ht : M 928 0 = 0) (hkk : -2147483648 ≤ k ∧ k ≤ 2147483647) (hbb : -2147483648 ≤ back ∧ back ≤ 2147483647) (hhh : -2147483648 ≤ hv ∧ hv ≤ 2147483647) (h2 : k < 0 ∨ M 929 582 ≤ k → Q (-2) M) (h3 : (0 ≤ k ∧ k < M 929 582) ∧ (back < 0 ∨ 100 < back ∨ hv < 1 ∨ 52 < hv) → Q (-3) M) (h0 : (0 ≤ k ∧ k < M 929 582) ∧ (0 ≤ back ∧ back ≤ 100) ∧ 1 ≤ hv ∧ hv ≤ 52 → Q (rLoan (fun x => rGain (M 929) k x back hv) (rTop (M 929) 0).toNat) M) : jCt yX12_lend cX12_lend 6 (some .int) 4 [jR 928, jI k, jI back, jI hv] M Q := by
  refine jCt_of mt_yX12_lend (Nat.le_of_ble_eq_true rfl) (fun X => ?_)
  have hn := hC.cnt
  have hg := hC.rng
  have htr := rTop_rng hC.rlaw
  have htp := hC.lrel.top
  have hO1 := hC.rlaw.1
  have e0 : rTop (M 929) 0 = if 0 < M 929 0 then M 929 (1 + M 929 0 - 1) else 0 := by
    unfold rTop fTop
    split
    · show M 929 (0 + 1 + (M 929 0 - 1)) = _
      congr 1
      omega
    · rfl
  refine e_aload_n (i := 0) 1 dX12_lend_0 rfl rfl rfl ?_
  refine e_iconst 2 dX12_lend_1 rfl ?_
  refine e_put0 (j := 0) 5 fl_12_1 dX12_lend_2 at_928 rfl rfl rfl (by decide) ht rfl ?_
  refine e_aload_n (i := 0) 6 dX12_lend_5 rfl rfl rfl ?_
  refine e_iload_n (i := 1) 7 dX12_lend_6 rfl rfl rfl ?_
  refine e_callV 10 mt_yX12_isKind mv_yX12_isKind wd_1619 (by decide) dX12_lend_7 at_928 jc_12 rfl rfl rfl (Nat.le_of_ble_eq_true rfl) (jroom (by decide)) rfl (m_isKind (by omega) (fun w7 => ?_) (fun w7 => ?_))
  · dsimp only [jpush]
    refine e_if_ne 13 16 dX12_lend_10 (by decide) (by decide) rfl (fun _ => ?_) (fun h => absurd h (by decide))
    refine e_iload_n (i := 2) 17 dX12_lend_16 rfl rfl rfl ?_
    refine e_i2l 18 dX12_lend_17 (by omega) rfl ?_
    refine e_lconst0 19 dX12_lend_18 rfl ?_
    refine e_ldc2 (z := (100)) 22 (ix := 269) wd_1623 (by decide) dX12_lend_19 rfl ?_
    refine e_callS 25 mt_yX12_within ms_yX12_within wd_1390 (by decide) dX12_lend_22 rfl rfl (Nat.le_of_ble_eq_true rfl) (jroom (by decide)) rfl (m_within (by omega) (by omega) (by omega) (fun w22 => ?_) (fun w22 => ?_))
    · dsimp only [jpush]
      refine e_if_eq 28 40 dX12_lend_25 (by decide) (by decide) rfl (fun h => absurd h (by decide)) (fun _ => ?_)
      refine e_iload_n (i := 3) 29 dX12_lend_28 rfl rfl rfl ?_
      refine e_i2l 30 dX12_lend_29 (by omega) rfl ?_
      refine e_lconst1 31 dX12_lend_30 rfl ?_
      refine e_ldc2 (z := (52)) 34 (ix := 219) wd_1515 (by decide) dX12_lend_31 rfl ?_
      refine e_callS 37 mt_yX12_within ms_yX12_within wd_1390 (by decide) dX12_lend_34 rfl rfl (Nat.le_of_ble_eq_true rfl) (jroom (by decide)) rfl (m_within (by omega) (by omega) (by omega) (fun w34 => ?_) (fun w34 => ?_))
      · dsimp only [jpush]
        refine e_if_ne 40 43 dX12_lend_37 (by decide) (by decide) rfl (fun _ => ?_) (fun h => absurd h (by decide))
        refine e_aload_n (i := 0) 44 dX12_lend_43 rfl rfl rfl ?_
        refine e_getr (j := 1) 47 fl_12_13 dX12_lend_44 at_928 rfl rfl tp_928_1 rfl ?_
        refine e_iconst 48 dX12_lend_47 rfl ?_
        refine e_iald 49 dX12_lend_48 ar_929 (by decide) (by decide) rfl (fun r48 => ?_)
        refine e_if_ne 52 56 dX12_lend_49 (by omega) (by decide) rfl (fun b49 => ?_) (fun b49 => ?_)
        · skip
          refine e_aload_n (i := 0) 57 dX12_lend_56 rfl rfl rfl ?_
          refine e_getr (j := 1) 60 fl_12_13 dX12_lend_57 at_928 rfl rfl tp_928_1 rfl ?_
          refine e_iconst 61 dX12_lend_60 rfl ?_
          refine e_aload_n (i := 0) 62 dX12_lend_61 rfl rfl rfl ?_
          refine e_getr (j := 1) 65 fl_12_13 dX12_lend_62 at_928 rfl rfl tp_928_1 rfl ?_
          refine e_iconst 66 dX12_lend_65 rfl ?_
          refine e_iald 67 dX12_lend_66 ar_929 (by decide) (by decide) rfl (fun r66 => ?_)
          refine e_iadd 68 dX12_lend_67 rfl ?_
          refine e_iconst 69 dX12_lend_68 rfl ?_
          refine e_isub 70 dX12_lend_69 rfl ?_
          refine e_iald 71 dX12_lend_70 ar_929 (by omega) (by omega) rfl (fun r70 => ?_)
          refine e_istore (lsn := [(4, _), (0, _), (1, _), (2, _), (3, _)]) 73 dX12_lend_71 (by decide) rfl rfl ?_
          refine e_iload 75 dX12_lend_73 rfl rfl ?_
          refine e_istore (lsn := [(5, _), (4, _), (0, _), (1, _), (2, _), (3, _)]) 77 dX12_lend_75 (by decide) rfl rfl ?_
          refine e_ls (ls2 := [(0, _), (1, _), (2, _), (3, _), (4, _), (5, _)]) rfl ?_
          rw [if_pos (by omega)] at e0
          exact lm_lend hC (by omega) (by omega) (by omega) (rTop (M 929) 0).toNat (by omega) (h0 (by omega)) _ (by omega)
        · skip
          refine e_iconst 53 dX12_lend_52 rfl ?_
          refine e_goto 71 dX12_lend_53 (by decide) ?_
          refine e_istore (lsn := [(4, _), (0, _), (1, _), (2, _), (3, _)]) 73 dX12_lend_71 (by decide) rfl rfl ?_
          refine e_iload 75 dX12_lend_73 rfl rfl ?_
          refine e_istore (lsn := [(5, _), (4, _), (0, _), (1, _), (2, _), (3, _)]) 77 dX12_lend_75 (by decide) rfl rfl ?_
          refine e_ls (ls2 := [(0, _), (1, _), (2, _), (3, _), (4, _), (5, _)]) rfl ?_
          rw [if_neg (by omega)] at e0
          exact lm_lend hC (by omega) (by omega) (by omega) (rTop (M 929) 0).toNat (by omega) (h0 (by omega)) _ (by omega)
      · dsimp only [jpush]
        refine e_if_ne 40 43 dX12_lend_37 (by decide) (by decide) rfl (fun h => absurd h (by decide)) (fun _ => ?_)
        refine e_bipush 42 dX12_lend_40 (by decide) rfl ?_
        refine e_iret dX12_lend_42 ?_
        first | exact h2 (by omega) | exact h3 (by omega)
    · dsimp only [jpush]
      refine e_if_eq 28 40 dX12_lend_25 (by decide) (by decide) rfl (fun _ => ?_) (fun h => absurd h (by decide))
      refine e_bipush 42 dX12_lend_40 (by decide) rfl ?_
      refine e_iret dX12_lend_42 ?_
      first | exact h2 (by omega) | exact h3 (by omega)
  · dsimp only [jpush]
    refine e_if_ne 13 16 dX12_lend_10 (by decide) (by decide) rfl (fun h => absurd h (by decide)) (fun _ => ?_)
    refine e_bipush 15 dX12_lend_13 (by decide) rfl ?_
    refine e_iret dX12_lend_15 ?_
    first | exact h2 (by omega) | exact h3 (by omega)

theorem p_lend {M : jM} (hI : Inv M) {k : Int} (hk : -2147483648 ≤ k ∧ k ≤ 2147483647) {back : Int} (hback : -2147483648 ≤ back ∧ back ≤ 2147483647) {hv : Int} (hhv : -2147483648 ≤ hv ∧ hv ≤ 2147483647) : jCt yX11_lend cX11_lend 5 (some .int) 4 [jR 0, jI k, jI back, jI hv] M (fun z M1 => jCt yX12_lend cX12_lend 6 (some .int) 4 [jR 928, jI k, jI back, jI hv] M1 (fun z2 M2 => z = z2 ∧ Inv M2)) := by
  have hC := hI.cr
  refine c_lend hC hk hback hhv (fun w => ?_) (fun w => ?_) (fun w => ?_) <;> refine m_lend hC hI.1 hk hback hhv (fun w2 => ?_) (fun w2 => ?_) (fun w2 => ?_) <;> first | exact ⟨rfl, hI⟩ | (exfalso; omega)

theorem p_gained {M : jM} (hI : Inv M) {k : Int} (hk : -2147483648 ≤ k ∧ k ≤ 2147483647) {loan : Int} (hloan : -2147483648 ≤ loan ∧ loan ≤ 2147483647) {back : Int} (hback : -2147483648 ≤ back ∧ back ≤ 2147483647) {hv : Int} (hhv : -2147483648 ≤ hv ∧ hv ≤ 2147483647) : jCt yX11_gained cX11_gained 8 (some .long) 4 [jR 0, jI k, jI loan, jI back, jI hv] M (fun z M1 => jCt yX12_gained cX12_gained 6 (some .long) 2 [jR 928, jI k, jI loan, jI back, jI hv] M1 (fun z2 M2 => z = z2 ∧ Inv M2)) := by
  have hC := hI.cr
  have hn := hC.cnt
  have hg := hC.rng
  have htp := hC.lrel.top
  refine jCt_of mt_yX11_gained (Nat.le_of_ble_eq_true rfl) (fun X => ?_)
  refine e_aload_n (i := 0) 1 dX11_gained_0 rfl rfl rfl ?_
  refine e_getr (j := 0) 4 fl_11_10 dX11_gained_1 at_0 rfl rfl tp_0_0 rfl ?_
  refine e_iload_n (i := 1) 5 dX11_gained_4 rfl rfl rfl ?_
  refine e_callV 8 mt_yX8_hasKind mv_yX8_hasKind wd_903 (by decide) dX11_gained_5 at_1 jc_8 rfl rfl rfl (Nat.le_of_ble_eq_true rfl) (jroom (by decide)) rfl (c_hasKind (by omega) (fun w5 => ?_) (fun w5 => ?_))
  · dsimp only [jpush]
    refine e_if_ne 11 15 dX11_gained_8 (by decide) (by decide) rfl (fun _ => ?_) (fun h => absurd h (by decide))
    refine e_iload_n (i := 2) 16 dX11_gained_15 rfl rfl rfl ?_
    refine e_callS 19 mt_yX11_isLoan ms_yX11_isLoan wd_727 (by decide) dX11_gained_16 rfl rfl (Nat.le_of_ble_eq_true rfl) (jroom (by decide)) rfl (c_isLoan (by omega) (fun w16 => ?_) (fun w16 => ?_))
    · dsimp only [jpush]
      refine e_if_eq 22 43 dX11_gained_19 (by decide) (by decide) rfl (fun h => absurd h (by decide)) (fun _ => ?_)
      refine e_iload_n (i := 3) 23 dX11_gained_22 rfl rfl rfl ?_
      refine e_iconst 24 dX11_gained_23 rfl ?_
      refine e_bipush 26 dX11_gained_24 (by decide) rfl ?_
      refine e_callS 29 mt_yX11_within ms_yX11_within wd_531 (by decide) dX11_gained_26 rfl rfl (Nat.le_of_ble_eq_true rfl) (jroom (by decide)) rfl (c_within (by omega) (by omega) (by omega) (fun w26 => ?_) (fun w26 => ?_))
      · dsimp only [jpush]
        refine e_if_eq 32 43 dX11_gained_29 (by decide) (by decide) rfl (fun h => absurd h (by decide)) (fun _ => ?_)
        refine e_iload 34 dX11_gained_32 rfl rfl ?_
        refine e_iconst 35 dX11_gained_34 rfl ?_
        refine e_bipush 37 dX11_gained_35 (by decide) rfl ?_
        refine e_callS 40 mt_yX11_within ms_yX11_within wd_531 (by decide) dX11_gained_37 rfl rfl (Nat.le_of_ble_eq_true rfl) (jroom (by decide)) rfl (c_within (by omega) (by omega) (by omega) (fun w37 => ?_) (fun w37 => ?_))
        · dsimp only [jpush]
          refine e_if_ne 43 47 dX11_gained_40 (by decide) (by decide) rfl (fun _ => ?_) (fun h => absurd h (by decide))
          refine e_aload_n (i := 0) 48 dX11_gained_47 rfl rfl rfl ?_
          refine e_getr (j := 0) 51 fl_11_10 dX11_gained_48 at_0 rfl rfl tp_0_0 rfl ?_
          refine e_getr (j := 0) 54 fl_11_73 dX11_gained_51 at_1 rfl rfl tp_1_0 rfl ?_
          refine e_iload_n (i := 2) 55 dX11_gained_54 rfl rfl rfl ?_
          refine e_callV 58 mt_yX1_lends mv_yX1_lends wd_730 (by decide) dX11_gained_55 at_2 jc_1 rfl rfl rfl (Nat.le_of_ble_eq_true rfl) (jroom (by decide)) rfl (c_lends (by omega) lw_2 hC.lrel.ok (fun w55 => ?_) (fun w55 => ?_))
          · dsimp only [jpush]
            refine e_if_ne 61 65 dX11_gained_58 (by decide) (by decide) rfl (fun _ => ?_) (fun h => absurd h (by decide))
            have hq := hC.kind (k := k) (by omega) (by omega)
            have hgr := rGain_rng hC (k := k) (loan := loan) (back := back) (hv := hv) (by omega) (by omega) (by omega) (by omega)
            have hpn : 100 * (M (56 + k) 2 - M (56 + k) 1 + 1) = 100 * (M 929 (607 + k) - M 929 (595 + k) + 1) := by omega
            refine e_aload_n (i := 0) 66 dX11_gained_65 rfl rfl rfl ?_
            refine e_getr (j := 0) 69 fl_11_10 dX11_gained_66 at_0 rfl rfl tp_0_0 rfl ?_
            refine e_getr (j := 5) 72 fl_11_125 dX11_gained_69 at_1 rfl rfl tp_1_5 rfl ?_
            refine e_iload_n (i := 1) 73 dX11_gained_72 rfl rfl rfl ?_
            refine e_aald 74 dX11_gained_73 ar_16 (by decide) (by omega) (by omega) (tp_kind (by omega) (by omega)) rfl ?_
            refine e_astore (lsn := [(5, _), (0, _), (1, _), (2, _), (3, _), (4, _)]) 76 dX11_gained_74 (by decide) rfl rfl ?_
            refine e_ldc2 (z := (100)) 79 (ix := 308) wd_935 (by decide) dX11_gained_76 rfl ?_
            refine e_aload 81 dX11_gained_79 rfl rfl ?_
            refine e_callV 84 mt_yX0_pennies mv_yX0_pennies wd_936 (by decide) dX11_gained_81 (at_kind (by omega) (by omega)) jc_0 rfl rfl rfl (Nat.le_of_ble_eq_true rfl) (jroom (by decide)) rfl (c_pennies (by omega) ?_)
            dsimp only [jpush]
            refine e_i2l 85 dX11_gained_84 (by omega) rfl ?_
            refine e_lmul 86 dX11_gained_85 rfl ?_
            rw [hpn]
            refine e_lstore (lsn := [(6, _), (5, _), (0, _), (1, _), (2, _), (3, _), (4, _)]) 88 dX11_gained_86 (by decide) rfl rfl ?_
            refine e_lload 90 dX11_gained_88 rfl rfl ?_
            refine e_lconst1 91 dX11_gained_90 rfl ?_
            refine e_lcmp 92 dX11_gained_91 (by omega) (by decide) rfl (fun b91 => ?_) (fun b91 => ?_) (fun b91 => ?_)
            · skip
              refine e_if_ge 95 99 dX11_gained_92 (by decide) (by decide) rfl (fun h => absurd h (by decide)) (fun _ => ?_)
              refine e_ldc2 (z := (-5)) 98 (ix := 306) wd_934 (by decide) dX11_gained_95 rfl ?_
              refine e_lret dX11_gained_98 ?_
              refine jCt_of mt_yX12_gained (Nat.le_of_ble_eq_true rfl) (fun X2 => ?_)
              refine e_aload_n (i := 0) 1 dX12_gained_0 rfl rfl rfl ?_
              refine e_iconst 2 dX12_gained_1 rfl ?_
              refine e_put0 (j := 0) 5 fl_12_1 dX12_gained_2 at_928 rfl rfl rfl (by decide) hI.1 rfl ?_
              refine e_aload_n (i := 0) 6 dX12_gained_5 rfl rfl rfl ?_
              refine e_iload_n (i := 1) 7 dX12_gained_6 rfl rfl rfl ?_
              refine e_callV 10 mt_yX12_isKind mv_yX12_isKind wd_1619 (by decide) dX12_gained_7 at_928 jc_12 rfl rfl rfl (Nat.le_of_ble_eq_true rfl) (jroom (by decide)) rfl (m_isKind (by omega) (fun w7 => ?_) (fun w7 => ?_))
              · dsimp only [jpush]
                first
                 | (exfalso; omega)
                 | (skip
                    refine e_if_ne 13 17 dX12_gained_10 (by decide) (by decide) rfl (fun _ => ?_) (fun h => absurd h (by decide))
                    refine e_iload_n (i := 2) 18 dX12_gained_17 rfl rfl rfl ?_
                    refine e_i2l 19 dX12_gained_18 (by omega) rfl ?_
                    refine e_lconst1 20 dX12_gained_19 rfl ?_
                    refine e_ldc2 (z := (999)) 23 (ix := 198) wd_1482 (by decide) dX12_gained_20 rfl ?_
                    refine e_callS 26 mt_yX12_within ms_yX12_within wd_1390 (by decide) dX12_gained_23 rfl rfl (Nat.le_of_ble_eq_true rfl) (jroom (by decide)) rfl (m_within (by omega) (by omega) (by omega) (fun w23 => ?_) (fun w23 => ?_))
                    · dsimp only [jpush]
                      first
                       | (exfalso; omega)
                       | (skip
                          refine e_if_eq 29 54 dX12_gained_26 (by decide) (by decide) rfl (fun h => absurd h (by decide)) (fun _ => ?_)
                          refine e_iload_n (i := 3) 30 dX12_gained_29 rfl rfl rfl ?_
                          refine e_i2l 31 dX12_gained_30 (by omega) rfl ?_
                          refine e_lconst0 32 dX12_gained_31 rfl ?_
                          refine e_ldc2 (z := (100)) 35 (ix := 269) wd_1623 (by decide) dX12_gained_32 rfl ?_
                          refine e_callS 38 mt_yX12_within ms_yX12_within wd_1390 (by decide) dX12_gained_35 rfl rfl (Nat.le_of_ble_eq_true rfl) (jroom (by decide)) rfl (m_within (by omega) (by omega) (by omega) (fun w35 => ?_) (fun w35 => ?_))
                          · dsimp only [jpush]
                            first
                             | (exfalso; omega)
                             | (skip
                                refine e_if_eq 41 54 dX12_gained_38 (by decide) (by decide) rfl (fun h => absurd h (by decide)) (fun _ => ?_)
                                refine e_iload 43 dX12_gained_41 rfl rfl ?_
                                refine e_i2l 44 dX12_gained_43 (by omega) rfl ?_
                                refine e_lconst1 45 dX12_gained_44 rfl ?_
                                refine e_ldc2 (z := (52)) 48 (ix := 219) wd_1515 (by decide) dX12_gained_45 rfl ?_
                                refine e_callS 51 mt_yX12_within ms_yX12_within wd_1390 (by decide) dX12_gained_48 rfl rfl (Nat.le_of_ble_eq_true rfl) (jroom (by decide)) rfl (m_within (by omega) (by omega) (by omega) (fun w48 => ?_) (fun w48 => ?_))
                                · dsimp only [jpush]
                                  first
                                   | (exfalso; omega)
                                   | (skip
                                      refine e_if_ne 54 58 dX12_gained_51 (by decide) (by decide) rfl (fun _ => ?_) (fun h => absurd h (by decide))
                                      refine e_aload_n (i := 0) 59 dX12_gained_58 rfl rfl rfl ?_
                                      refine e_iconst 60 dX12_gained_59 rfl ?_
                                      refine e_iload_n (i := 2) 61 dX12_gained_60 rfl rfl rfl ?_
                                      refine e_iload 63 dX12_gained_61 rfl rfl ?_
                                      refine e_callV 66 mt_yX12_interestBy mv_yX12_interestBy wd_1487 (by decide) dX12_gained_63 at_928 jc_12 rfl rfl rfl (Nat.le_of_ble_eq_true rfl) (jroom (by decide)) rfl (m_interestBy (by decide) (by omega) (by omega) hC.rlaw (fun w63 => ?_) (fun w63 => ?_))
                                      · dsimp only [jpush]
                                        (try have hcr := rChg_rng (loan := loan) (hv := hv) hC.rlaw (by omega) (by omega))
                                        first
                                         | (exfalso; omega)
                                         | (skip
                                            refine e_istore (lsn := [(5, _), (0, _), (1, _), (2, _), (3, _), (4, _)]) 68 dX12_gained_66 (by decide) rfl rfl ?_
                                            refine e_iload 70 dX12_gained_68 rfl rfl ?_
                                            refine e_iconst 71 dX12_gained_70 rfl ?_
                                            refine e_icmp_ne 74 78 dX12_gained_71 (by omega) (by decide) (by decide) rfl (fun b71 => ?_) (fun b71 => ?_)
                                            · first
                                               | (exfalso; omega)
                                               | (skip
                                                  refine e_aload_n (i := 0) 79 dX12_gained_78 rfl rfl rfl ?_
                                                  refine e_iload_n (i := 1) 80 dX12_gained_79 rfl rfl rfl ?_
                                                  refine e_iload_n (i := 2) 81 dX12_gained_80 rfl rfl rfl ?_
                                                  refine e_iload 83 dX12_gained_81 rfl rfl ?_
                                                  refine e_iload_n (i := 3) 84 dX12_gained_83 rfl rfl rfl ?_
                                                  refine e_callV 87 mt_yX12_gainedBy mv_yX12_gainedBy wd_1624 (by decide) dX12_gained_84 at_928 jc_12 rfl rfl rfl (Nat.le_of_ble_eq_true rfl) (jroom (by decide)) rfl (m_gain (hv := hv) hC (by omega) (by omega) (by omega) (by omega) ?_)
                                                  dsimp only [jpush]
                                                  refine e_ldc2 (z := (10)) 90 (ix := 286) wd_1636 (by decide) dX12_gained_87 rfl ?_
                                                  refine e_lmul 91 dX12_gained_90 rfl ?_
                                                  refine e_aload_n (i := 0) 92 dX12_gained_91 rfl rfl rfl ?_
                                                  refine e_getr (j := 1) 95 fl_12_13 dX12_gained_92 at_928 rfl rfl tp_928_1 rfl ?_
                                                  refine e_sipush 98 dX12_gained_95 (by decide) rfl ?_
                                                  refine e_iload_n (i := 1) 99 dX12_gained_98 rfl rfl rfl ?_
                                                  refine e_iadd 100 dX12_gained_99 rfl ?_
                                                  refine e_iald 101 dX12_gained_100 ar_929 (by omega) (by omega) rfl (fun r100 => ?_)
                                                  refine e_aload_n (i := 0) 102 dX12_gained_101 rfl rfl rfl ?_
                                                  refine e_getr (j := 1) 105 fl_12_13 dX12_gained_102 at_928 rfl rfl tp_928_1 rfl ?_
                                                  refine e_sipush 108 dX12_gained_105 (by decide) rfl ?_
                                                  refine e_iload_n (i := 1) 109 dX12_gained_108 rfl rfl rfl ?_
                                                  refine e_iadd 110 dX12_gained_109 rfl ?_
                                                  refine e_iald 111 dX12_gained_110 ar_929 (by omega) (by omega) rfl (fun r110 => ?_)
                                                  refine e_isub 112 dX12_gained_111 rfl ?_
                                                  refine e_iconst 113 dX12_gained_112 rfl ?_
                                                  refine e_iadd 114 dX12_gained_113 rfl ?_
                                                  refine e_i2l 115 dX12_gained_114 (by omega) rfl ?_
                                                  refine e_ldiv 116 dX12_gained_115 (by omega) (by omega) (by omega) rfl ?_
                                                  refine e_lret dX12_gained_116 ?_
                                                  first
                                                    | (exact ⟨by omega, hI⟩)
                                                    | (exfalso; omega)
                                                    | (refine ⟨?_, hI⟩
                                                       rw [show 1000 * rGain (M 929) k loan back hv = 100 * (rGain (M 929) k loan back hv * 10) by omega]
                                                       exact Int.mul_tdiv_mul_of_pos _ _ (by omega)))
                                            · first
                                               | (exfalso; omega)
                                               | (skip
                                                  refine e_ldc2 (z := (-5)) 77 (ix := 284) wd_1635 (by decide) dX12_gained_74 rfl ?_
                                                  refine e_lret dX12_gained_77 ?_
                                                  first
                                                    | (exact ⟨by omega, hI⟩)
                                                    | (exfalso; omega)
                                                    | (refine ⟨?_, hI⟩
                                                       rw [show 1000 * rGain (M 929) k loan back hv = 100 * (rGain (M 929) k loan back hv * 10) by omega]
                                                       exact Int.mul_tdiv_mul_of_pos _ _ (by omega))))
                                      · dsimp only [jpush]
                                        (try have hcr := rChg_rng (loan := loan) (hv := hv) hC.rlaw (by omega) (by omega))
                                        first
                                         | (exfalso; omega)
                                         | (skip
                                            refine e_istore (lsn := [(5, _), (0, _), (1, _), (2, _), (3, _), (4, _)]) 68 dX12_gained_66 (by decide) rfl rfl ?_
                                            refine e_iload 70 dX12_gained_68 rfl rfl ?_
                                            refine e_iconst 71 dX12_gained_70 rfl ?_
                                            refine e_icmp_ne 74 78 dX12_gained_71 (by decide) (by decide) (by decide) rfl (fun h => absurd h (by decide)) (fun _ => ?_)
                                            refine e_ldc2 (z := (-5)) 77 (ix := 284) wd_1635 (by decide) dX12_gained_74 rfl ?_
                                            refine e_lret dX12_gained_77 ?_
                                            first
                                              | (exact ⟨by omega, hI⟩)
                                              | (exfalso; omega)
                                              | (refine ⟨?_, hI⟩
                                                 rw [show 1000 * rGain (M 929) k loan back hv = 100 * (rGain (M 929) k loan back hv * 10) by omega]
                                                 exact Int.mul_tdiv_mul_of_pos _ _ (by omega))))
                                · dsimp only [jpush]
                                  first
                                   | (exfalso; omega)
                                   | (skip
                                      refine e_if_ne 54 58 dX12_gained_51 (by decide) (by decide) rfl (fun h => absurd h (by decide)) (fun _ => ?_)
                                      refine e_ldc2 (z := (-3)) 57 (ix := 282) wd_1634 (by decide) dX12_gained_54 rfl ?_
                                      refine e_lret dX12_gained_57 ?_
                                      first
                                        | (exact ⟨by omega, hI⟩)
                                        | (exfalso; omega)
                                        | (refine ⟨?_, hI⟩
                                           rw [show 1000 * rGain (M 929) k loan back hv = 100 * (rGain (M 929) k loan back hv * 10) by omega]
                                           exact Int.mul_tdiv_mul_of_pos _ _ (by omega))))
                          · dsimp only [jpush]
                            first
                             | (exfalso; omega)
                             | (skip
                                refine e_if_eq 41 54 dX12_gained_38 (by decide) (by decide) rfl (fun _ => ?_) (fun h => absurd h (by decide))
                                refine e_ldc2 (z := (-3)) 57 (ix := 282) wd_1634 (by decide) dX12_gained_54 rfl ?_
                                refine e_lret dX12_gained_57 ?_
                                first
                                  | (exact ⟨by omega, hI⟩)
                                  | (exfalso; omega)
                                  | (refine ⟨?_, hI⟩
                                     rw [show 1000 * rGain (M 929) k loan back hv = 100 * (rGain (M 929) k loan back hv * 10) by omega]
                                     exact Int.mul_tdiv_mul_of_pos _ _ (by omega))))
                    · dsimp only [jpush]
                      first
                       | (exfalso; omega)
                       | (skip
                          refine e_if_eq 29 54 dX12_gained_26 (by decide) (by decide) rfl (fun _ => ?_) (fun h => absurd h (by decide))
                          refine e_ldc2 (z := (-3)) 57 (ix := 282) wd_1634 (by decide) dX12_gained_54 rfl ?_
                          refine e_lret dX12_gained_57 ?_
                          first
                            | (exact ⟨by omega, hI⟩)
                            | (exfalso; omega)
                            | (refine ⟨?_, hI⟩
                               rw [show 1000 * rGain (M 929) k loan back hv = 100 * (rGain (M 929) k loan back hv * 10) by omega]
                               exact Int.mul_tdiv_mul_of_pos _ _ (by omega))))
              · dsimp only [jpush]
                first
                 | (exfalso; omega)
                 | (skip
                    refine e_if_ne 13 17 dX12_gained_10 (by decide) (by decide) rfl (fun h => absurd h (by decide)) (fun _ => ?_)
                    refine e_ldc2 (z := (-2)) 16 (ix := 280) wd_1633 (by decide) dX12_gained_13 rfl ?_
                    refine e_lret dX12_gained_16 ?_
                    first
                      | (exact ⟨by omega, hI⟩)
                      | (exfalso; omega)
                      | (refine ⟨?_, hI⟩
                         rw [show 1000 * rGain (M 929) k loan back hv = 100 * (rGain (M 929) k loan back hv * 10) by omega]
                         exact Int.mul_tdiv_mul_of_pos _ _ (by omega)))
            · skip
              refine e_if_ge 95 99 dX11_gained_92 (by decide) (by decide) rfl (fun _ => ?_) (fun h => absurd h (by decide))
              refine e_ldc2 (z := (1000)) 102 (ix := 313) wd_937 (by decide) dX11_gained_99 rfl ?_
              refine e_aload_n (i := 0) 103 dX11_gained_102 rfl rfl rfl ?_
              refine e_getr (j := 0) 106 fl_11_10 dX11_gained_103 at_0 rfl rfl tp_0_0 rfl ?_
              refine e_getr (j := 0) 109 fl_11_73 dX11_gained_106 at_1 rfl rfl tp_1_0 rfl ?_
              refine e_aload 111 dX11_gained_109 rfl rfl ?_
              refine e_iload_n (i := 2) 112 dX11_gained_111 rfl rfl rfl ?_
              refine e_iload_n (i := 3) 113 dX11_gained_112 rfl rfl rfl ?_
              refine e_iload 115 dX11_gained_113 rfl rfl ?_
              refine e_callV 118 mt_yX1_gainParts mv_yX1_gainParts wd_905 (by decide) dX11_gained_115 at_2 jc_1 rfl rfl rfl (Nat.le_of_ble_eq_true rfl) (jroom (by decide)) rfl (c_gain hC (by omega) (by omega) (by omega) (by omega) ?_)
              dsimp only [jpush]
              refine e_lmul 119 dX11_gained_118 rfl ?_
              refine e_lload 121 dX11_gained_119 rfl rfl ?_
              refine e_ldiv 122 dX11_gained_121 (by omega) (by omega) (by omega) rfl ?_
              refine e_lret dX11_gained_122 ?_
              refine jCt_of mt_yX12_gained (Nat.le_of_ble_eq_true rfl) (fun X2 => ?_)
              refine e_aload_n (i := 0) 1 dX12_gained_0 rfl rfl rfl ?_
              refine e_iconst 2 dX12_gained_1 rfl ?_
              refine e_put0 (j := 0) 5 fl_12_1 dX12_gained_2 at_928 rfl rfl rfl (by decide) hI.1 rfl ?_
              refine e_aload_n (i := 0) 6 dX12_gained_5 rfl rfl rfl ?_
              refine e_iload_n (i := 1) 7 dX12_gained_6 rfl rfl rfl ?_
              refine e_callV 10 mt_yX12_isKind mv_yX12_isKind wd_1619 (by decide) dX12_gained_7 at_928 jc_12 rfl rfl rfl (Nat.le_of_ble_eq_true rfl) (jroom (by decide)) rfl (m_isKind (by omega) (fun w7 => ?_) (fun w7 => ?_))
              · dsimp only [jpush]
                first
                 | (exfalso; omega)
                 | (skip
                    refine e_if_ne 13 17 dX12_gained_10 (by decide) (by decide) rfl (fun _ => ?_) (fun h => absurd h (by decide))
                    refine e_iload_n (i := 2) 18 dX12_gained_17 rfl rfl rfl ?_
                    refine e_i2l 19 dX12_gained_18 (by omega) rfl ?_
                    refine e_lconst1 20 dX12_gained_19 rfl ?_
                    refine e_ldc2 (z := (999)) 23 (ix := 198) wd_1482 (by decide) dX12_gained_20 rfl ?_
                    refine e_callS 26 mt_yX12_within ms_yX12_within wd_1390 (by decide) dX12_gained_23 rfl rfl (Nat.le_of_ble_eq_true rfl) (jroom (by decide)) rfl (m_within (by omega) (by omega) (by omega) (fun w23 => ?_) (fun w23 => ?_))
                    · dsimp only [jpush]
                      first
                       | (exfalso; omega)
                       | (skip
                          refine e_if_eq 29 54 dX12_gained_26 (by decide) (by decide) rfl (fun h => absurd h (by decide)) (fun _ => ?_)
                          refine e_iload_n (i := 3) 30 dX12_gained_29 rfl rfl rfl ?_
                          refine e_i2l 31 dX12_gained_30 (by omega) rfl ?_
                          refine e_lconst0 32 dX12_gained_31 rfl ?_
                          refine e_ldc2 (z := (100)) 35 (ix := 269) wd_1623 (by decide) dX12_gained_32 rfl ?_
                          refine e_callS 38 mt_yX12_within ms_yX12_within wd_1390 (by decide) dX12_gained_35 rfl rfl (Nat.le_of_ble_eq_true rfl) (jroom (by decide)) rfl (m_within (by omega) (by omega) (by omega) (fun w35 => ?_) (fun w35 => ?_))
                          · dsimp only [jpush]
                            first
                             | (exfalso; omega)
                             | (skip
                                refine e_if_eq 41 54 dX12_gained_38 (by decide) (by decide) rfl (fun h => absurd h (by decide)) (fun _ => ?_)
                                refine e_iload 43 dX12_gained_41 rfl rfl ?_
                                refine e_i2l 44 dX12_gained_43 (by omega) rfl ?_
                                refine e_lconst1 45 dX12_gained_44 rfl ?_
                                refine e_ldc2 (z := (52)) 48 (ix := 219) wd_1515 (by decide) dX12_gained_45 rfl ?_
                                refine e_callS 51 mt_yX12_within ms_yX12_within wd_1390 (by decide) dX12_gained_48 rfl rfl (Nat.le_of_ble_eq_true rfl) (jroom (by decide)) rfl (m_within (by omega) (by omega) (by omega) (fun w48 => ?_) (fun w48 => ?_))
                                · dsimp only [jpush]
                                  first
                                   | (exfalso; omega)
                                   | (skip
                                      refine e_if_ne 54 58 dX12_gained_51 (by decide) (by decide) rfl (fun _ => ?_) (fun h => absurd h (by decide))
                                      refine e_aload_n (i := 0) 59 dX12_gained_58 rfl rfl rfl ?_
                                      refine e_iconst 60 dX12_gained_59 rfl ?_
                                      refine e_iload_n (i := 2) 61 dX12_gained_60 rfl rfl rfl ?_
                                      refine e_iload 63 dX12_gained_61 rfl rfl ?_
                                      refine e_callV 66 mt_yX12_interestBy mv_yX12_interestBy wd_1487 (by decide) dX12_gained_63 at_928 jc_12 rfl rfl rfl (Nat.le_of_ble_eq_true rfl) (jroom (by decide)) rfl (m_interestBy (by decide) (by omega) (by omega) hC.rlaw (fun w63 => ?_) (fun w63 => ?_))
                                      · dsimp only [jpush]
                                        (try have hcr := rChg_rng (loan := loan) (hv := hv) hC.rlaw (by omega) (by omega))
                                        first
                                         | (exfalso; omega)
                                         | (skip
                                            refine e_istore (lsn := [(5, _), (0, _), (1, _), (2, _), (3, _), (4, _)]) 68 dX12_gained_66 (by decide) rfl rfl ?_
                                            refine e_iload 70 dX12_gained_68 rfl rfl ?_
                                            refine e_iconst 71 dX12_gained_70 rfl ?_
                                            refine e_icmp_ne 74 78 dX12_gained_71 (by omega) (by decide) (by decide) rfl (fun b71 => ?_) (fun b71 => ?_)
                                            · first
                                               | (exfalso; omega)
                                               | (skip
                                                  refine e_aload_n (i := 0) 79 dX12_gained_78 rfl rfl rfl ?_
                                                  refine e_iload_n (i := 1) 80 dX12_gained_79 rfl rfl rfl ?_
                                                  refine e_iload_n (i := 2) 81 dX12_gained_80 rfl rfl rfl ?_
                                                  refine e_iload 83 dX12_gained_81 rfl rfl ?_
                                                  refine e_iload_n (i := 3) 84 dX12_gained_83 rfl rfl rfl ?_
                                                  refine e_callV 87 mt_yX12_gainedBy mv_yX12_gainedBy wd_1624 (by decide) dX12_gained_84 at_928 jc_12 rfl rfl rfl (Nat.le_of_ble_eq_true rfl) (jroom (by decide)) rfl (m_gain (hv := hv) hC (by omega) (by omega) (by omega) (by omega) ?_)
                                                  dsimp only [jpush]
                                                  refine e_ldc2 (z := (10)) 90 (ix := 286) wd_1636 (by decide) dX12_gained_87 rfl ?_
                                                  refine e_lmul 91 dX12_gained_90 rfl ?_
                                                  refine e_aload_n (i := 0) 92 dX12_gained_91 rfl rfl rfl ?_
                                                  refine e_getr (j := 1) 95 fl_12_13 dX12_gained_92 at_928 rfl rfl tp_928_1 rfl ?_
                                                  refine e_sipush 98 dX12_gained_95 (by decide) rfl ?_
                                                  refine e_iload_n (i := 1) 99 dX12_gained_98 rfl rfl rfl ?_
                                                  refine e_iadd 100 dX12_gained_99 rfl ?_
                                                  refine e_iald 101 dX12_gained_100 ar_929 (by omega) (by omega) rfl (fun r100 => ?_)
                                                  refine e_aload_n (i := 0) 102 dX12_gained_101 rfl rfl rfl ?_
                                                  refine e_getr (j := 1) 105 fl_12_13 dX12_gained_102 at_928 rfl rfl tp_928_1 rfl ?_
                                                  refine e_sipush 108 dX12_gained_105 (by decide) rfl ?_
                                                  refine e_iload_n (i := 1) 109 dX12_gained_108 rfl rfl rfl ?_
                                                  refine e_iadd 110 dX12_gained_109 rfl ?_
                                                  refine e_iald 111 dX12_gained_110 ar_929 (by omega) (by omega) rfl (fun r110 => ?_)
                                                  refine e_isub 112 dX12_gained_111 rfl ?_
                                                  refine e_iconst 113 dX12_gained_112 rfl ?_
                                                  refine e_iadd 114 dX12_gained_113 rfl ?_
                                                  refine e_i2l 115 dX12_gained_114 (by omega) rfl ?_
                                                  refine e_ldiv 116 dX12_gained_115 (by omega) (by omega) (by omega) rfl ?_
                                                  refine e_lret dX12_gained_116 ?_
                                                  first
                                                    | (exact ⟨by omega, hI⟩)
                                                    | (exfalso; omega)
                                                    | (refine ⟨?_, hI⟩
                                                       rw [show 1000 * rGain (M 929) k loan back hv = 100 * (rGain (M 929) k loan back hv * 10) by omega]
                                                       exact Int.mul_tdiv_mul_of_pos _ _ (by omega)))
                                            · first
                                               | (exfalso; omega)
                                               | (skip
                                                  refine e_ldc2 (z := (-5)) 77 (ix := 284) wd_1635 (by decide) dX12_gained_74 rfl ?_
                                                  refine e_lret dX12_gained_77 ?_
                                                  first
                                                    | (exact ⟨by omega, hI⟩)
                                                    | (exfalso; omega)
                                                    | (refine ⟨?_, hI⟩
                                                       rw [show 1000 * rGain (M 929) k loan back hv = 100 * (rGain (M 929) k loan back hv * 10) by omega]
                                                       exact Int.mul_tdiv_mul_of_pos _ _ (by omega))))
                                      · dsimp only [jpush]
                                        (try have hcr := rChg_rng (loan := loan) (hv := hv) hC.rlaw (by omega) (by omega))
                                        first
                                         | (exfalso; omega)
                                         | (skip
                                            refine e_istore (lsn := [(5, _), (0, _), (1, _), (2, _), (3, _), (4, _)]) 68 dX12_gained_66 (by decide) rfl rfl ?_
                                            refine e_iload 70 dX12_gained_68 rfl rfl ?_
                                            refine e_iconst 71 dX12_gained_70 rfl ?_
                                            refine e_icmp_ne 74 78 dX12_gained_71 (by decide) (by decide) (by decide) rfl (fun h => absurd h (by decide)) (fun _ => ?_)
                                            refine e_ldc2 (z := (-5)) 77 (ix := 284) wd_1635 (by decide) dX12_gained_74 rfl ?_
                                            refine e_lret dX12_gained_77 ?_
                                            first
                                              | (exact ⟨by omega, hI⟩)
                                              | (exfalso; omega)
                                              | (refine ⟨?_, hI⟩
                                                 rw [show 1000 * rGain (M 929) k loan back hv = 100 * (rGain (M 929) k loan back hv * 10) by omega]
                                                 exact Int.mul_tdiv_mul_of_pos _ _ (by omega))))
                                · dsimp only [jpush]
                                  first
                                   | (exfalso; omega)
                                   | (skip
                                      refine e_if_ne 54 58 dX12_gained_51 (by decide) (by decide) rfl (fun h => absurd h (by decide)) (fun _ => ?_)
                                      refine e_ldc2 (z := (-3)) 57 (ix := 282) wd_1634 (by decide) dX12_gained_54 rfl ?_
                                      refine e_lret dX12_gained_57 ?_
                                      first
                                        | (exact ⟨by omega, hI⟩)
                                        | (exfalso; omega)
                                        | (refine ⟨?_, hI⟩
                                           rw [show 1000 * rGain (M 929) k loan back hv = 100 * (rGain (M 929) k loan back hv * 10) by omega]
                                           exact Int.mul_tdiv_mul_of_pos _ _ (by omega))))
                          · dsimp only [jpush]
                            first
                             | (exfalso; omega)
                             | (skip
                                refine e_if_eq 41 54 dX12_gained_38 (by decide) (by decide) rfl (fun _ => ?_) (fun h => absurd h (by decide))
                                refine e_ldc2 (z := (-3)) 57 (ix := 282) wd_1634 (by decide) dX12_gained_54 rfl ?_
                                refine e_lret dX12_gained_57 ?_
                                first
                                  | (exact ⟨by omega, hI⟩)
                                  | (exfalso; omega)
                                  | (refine ⟨?_, hI⟩
                                     rw [show 1000 * rGain (M 929) k loan back hv = 100 * (rGain (M 929) k loan back hv * 10) by omega]
                                     exact Int.mul_tdiv_mul_of_pos _ _ (by omega))))
                    · dsimp only [jpush]
                      first
                       | (exfalso; omega)
                       | (skip
                          refine e_if_eq 29 54 dX12_gained_26 (by decide) (by decide) rfl (fun _ => ?_) (fun h => absurd h (by decide))
                          refine e_ldc2 (z := (-3)) 57 (ix := 282) wd_1634 (by decide) dX12_gained_54 rfl ?_
                          refine e_lret dX12_gained_57 ?_
                          first
                            | (exact ⟨by omega, hI⟩)
                            | (exfalso; omega)
                            | (refine ⟨?_, hI⟩
                               rw [show 1000 * rGain (M 929) k loan back hv = 100 * (rGain (M 929) k loan back hv * 10) by omega]
                               exact Int.mul_tdiv_mul_of_pos _ _ (by omega))))
              · dsimp only [jpush]
                first
                 | (exfalso; omega)
                 | (skip
                    refine e_if_ne 13 17 dX12_gained_10 (by decide) (by decide) rfl (fun h => absurd h (by decide)) (fun _ => ?_)
                    refine e_ldc2 (z := (-2)) 16 (ix := 280) wd_1633 (by decide) dX12_gained_13 rfl ?_
                    refine e_lret dX12_gained_16 ?_
                    first
                      | (exact ⟨by omega, hI⟩)
                      | (exfalso; omega)
                      | (refine ⟨?_, hI⟩
                         rw [show 1000 * rGain (M 929) k loan back hv = 100 * (rGain (M 929) k loan back hv * 10) by omega]
                         exact Int.mul_tdiv_mul_of_pos _ _ (by omega)))
            · skip
              refine e_if_ge 95 99 dX11_gained_92 (by decide) (by decide) rfl (fun _ => ?_) (fun h => absurd h (by decide))
              refine e_ldc2 (z := (1000)) 102 (ix := 313) wd_937 (by decide) dX11_gained_99 rfl ?_
              refine e_aload_n (i := 0) 103 dX11_gained_102 rfl rfl rfl ?_
              refine e_getr (j := 0) 106 fl_11_10 dX11_gained_103 at_0 rfl rfl tp_0_0 rfl ?_
              refine e_getr (j := 0) 109 fl_11_73 dX11_gained_106 at_1 rfl rfl tp_1_0 rfl ?_
              refine e_aload 111 dX11_gained_109 rfl rfl ?_
              refine e_iload_n (i := 2) 112 dX11_gained_111 rfl rfl rfl ?_
              refine e_iload_n (i := 3) 113 dX11_gained_112 rfl rfl rfl ?_
              refine e_iload 115 dX11_gained_113 rfl rfl ?_
              refine e_callV 118 mt_yX1_gainParts mv_yX1_gainParts wd_905 (by decide) dX11_gained_115 at_2 jc_1 rfl rfl rfl (Nat.le_of_ble_eq_true rfl) (jroom (by decide)) rfl (c_gain hC (by omega) (by omega) (by omega) (by omega) ?_)
              dsimp only [jpush]
              refine e_lmul 119 dX11_gained_118 rfl ?_
              refine e_lload 121 dX11_gained_119 rfl rfl ?_
              refine e_ldiv 122 dX11_gained_121 (by omega) (by omega) (by omega) rfl ?_
              refine e_lret dX11_gained_122 ?_
              refine jCt_of mt_yX12_gained (Nat.le_of_ble_eq_true rfl) (fun X2 => ?_)
              refine e_aload_n (i := 0) 1 dX12_gained_0 rfl rfl rfl ?_
              refine e_iconst 2 dX12_gained_1 rfl ?_
              refine e_put0 (j := 0) 5 fl_12_1 dX12_gained_2 at_928 rfl rfl rfl (by decide) hI.1 rfl ?_
              refine e_aload_n (i := 0) 6 dX12_gained_5 rfl rfl rfl ?_
              refine e_iload_n (i := 1) 7 dX12_gained_6 rfl rfl rfl ?_
              refine e_callV 10 mt_yX12_isKind mv_yX12_isKind wd_1619 (by decide) dX12_gained_7 at_928 jc_12 rfl rfl rfl (Nat.le_of_ble_eq_true rfl) (jroom (by decide)) rfl (m_isKind (by omega) (fun w7 => ?_) (fun w7 => ?_))
              · dsimp only [jpush]
                first
                 | (exfalso; omega)
                 | (skip
                    refine e_if_ne 13 17 dX12_gained_10 (by decide) (by decide) rfl (fun _ => ?_) (fun h => absurd h (by decide))
                    refine e_iload_n (i := 2) 18 dX12_gained_17 rfl rfl rfl ?_
                    refine e_i2l 19 dX12_gained_18 (by omega) rfl ?_
                    refine e_lconst1 20 dX12_gained_19 rfl ?_
                    refine e_ldc2 (z := (999)) 23 (ix := 198) wd_1482 (by decide) dX12_gained_20 rfl ?_
                    refine e_callS 26 mt_yX12_within ms_yX12_within wd_1390 (by decide) dX12_gained_23 rfl rfl (Nat.le_of_ble_eq_true rfl) (jroom (by decide)) rfl (m_within (by omega) (by omega) (by omega) (fun w23 => ?_) (fun w23 => ?_))
                    · dsimp only [jpush]
                      first
                       | (exfalso; omega)
                       | (skip
                          refine e_if_eq 29 54 dX12_gained_26 (by decide) (by decide) rfl (fun h => absurd h (by decide)) (fun _ => ?_)
                          refine e_iload_n (i := 3) 30 dX12_gained_29 rfl rfl rfl ?_
                          refine e_i2l 31 dX12_gained_30 (by omega) rfl ?_
                          refine e_lconst0 32 dX12_gained_31 rfl ?_
                          refine e_ldc2 (z := (100)) 35 (ix := 269) wd_1623 (by decide) dX12_gained_32 rfl ?_
                          refine e_callS 38 mt_yX12_within ms_yX12_within wd_1390 (by decide) dX12_gained_35 rfl rfl (Nat.le_of_ble_eq_true rfl) (jroom (by decide)) rfl (m_within (by omega) (by omega) (by omega) (fun w35 => ?_) (fun w35 => ?_))
                          · dsimp only [jpush]
                            first
                             | (exfalso; omega)
                             | (skip
                                refine e_if_eq 41 54 dX12_gained_38 (by decide) (by decide) rfl (fun h => absurd h (by decide)) (fun _ => ?_)
                                refine e_iload 43 dX12_gained_41 rfl rfl ?_
                                refine e_i2l 44 dX12_gained_43 (by omega) rfl ?_
                                refine e_lconst1 45 dX12_gained_44 rfl ?_
                                refine e_ldc2 (z := (52)) 48 (ix := 219) wd_1515 (by decide) dX12_gained_45 rfl ?_
                                refine e_callS 51 mt_yX12_within ms_yX12_within wd_1390 (by decide) dX12_gained_48 rfl rfl (Nat.le_of_ble_eq_true rfl) (jroom (by decide)) rfl (m_within (by omega) (by omega) (by omega) (fun w48 => ?_) (fun w48 => ?_))
                                · dsimp only [jpush]
                                  first
                                   | (exfalso; omega)
                                   | (skip
                                      refine e_if_ne 54 58 dX12_gained_51 (by decide) (by decide) rfl (fun _ => ?_) (fun h => absurd h (by decide))
                                      refine e_aload_n (i := 0) 59 dX12_gained_58 rfl rfl rfl ?_
                                      refine e_iconst 60 dX12_gained_59 rfl ?_
                                      refine e_iload_n (i := 2) 61 dX12_gained_60 rfl rfl rfl ?_
                                      refine e_iload 63 dX12_gained_61 rfl rfl ?_
                                      refine e_callV 66 mt_yX12_interestBy mv_yX12_interestBy wd_1487 (by decide) dX12_gained_63 at_928 jc_12 rfl rfl rfl (Nat.le_of_ble_eq_true rfl) (jroom (by decide)) rfl (m_interestBy (by decide) (by omega) (by omega) hC.rlaw (fun w63 => ?_) (fun w63 => ?_))
                                      · dsimp only [jpush]
                                        (try have hcr := rChg_rng (loan := loan) (hv := hv) hC.rlaw (by omega) (by omega))
                                        first
                                         | (exfalso; omega)
                                         | (skip
                                            refine e_istore (lsn := [(5, _), (0, _), (1, _), (2, _), (3, _), (4, _)]) 68 dX12_gained_66 (by decide) rfl rfl ?_
                                            refine e_iload 70 dX12_gained_68 rfl rfl ?_
                                            refine e_iconst 71 dX12_gained_70 rfl ?_
                                            refine e_icmp_ne 74 78 dX12_gained_71 (by omega) (by decide) (by decide) rfl (fun b71 => ?_) (fun b71 => ?_)
                                            · first
                                               | (exfalso; omega)
                                               | (skip
                                                  refine e_aload_n (i := 0) 79 dX12_gained_78 rfl rfl rfl ?_
                                                  refine e_iload_n (i := 1) 80 dX12_gained_79 rfl rfl rfl ?_
                                                  refine e_iload_n (i := 2) 81 dX12_gained_80 rfl rfl rfl ?_
                                                  refine e_iload 83 dX12_gained_81 rfl rfl ?_
                                                  refine e_iload_n (i := 3) 84 dX12_gained_83 rfl rfl rfl ?_
                                                  refine e_callV 87 mt_yX12_gainedBy mv_yX12_gainedBy wd_1624 (by decide) dX12_gained_84 at_928 jc_12 rfl rfl rfl (Nat.le_of_ble_eq_true rfl) (jroom (by decide)) rfl (m_gain (hv := hv) hC (by omega) (by omega) (by omega) (by omega) ?_)
                                                  dsimp only [jpush]
                                                  refine e_ldc2 (z := (10)) 90 (ix := 286) wd_1636 (by decide) dX12_gained_87 rfl ?_
                                                  refine e_lmul 91 dX12_gained_90 rfl ?_
                                                  refine e_aload_n (i := 0) 92 dX12_gained_91 rfl rfl rfl ?_
                                                  refine e_getr (j := 1) 95 fl_12_13 dX12_gained_92 at_928 rfl rfl tp_928_1 rfl ?_
                                                  refine e_sipush 98 dX12_gained_95 (by decide) rfl ?_
                                                  refine e_iload_n (i := 1) 99 dX12_gained_98 rfl rfl rfl ?_
                                                  refine e_iadd 100 dX12_gained_99 rfl ?_
                                                  refine e_iald 101 dX12_gained_100 ar_929 (by omega) (by omega) rfl (fun r100 => ?_)
                                                  refine e_aload_n (i := 0) 102 dX12_gained_101 rfl rfl rfl ?_
                                                  refine e_getr (j := 1) 105 fl_12_13 dX12_gained_102 at_928 rfl rfl tp_928_1 rfl ?_
                                                  refine e_sipush 108 dX12_gained_105 (by decide) rfl ?_
                                                  refine e_iload_n (i := 1) 109 dX12_gained_108 rfl rfl rfl ?_
                                                  refine e_iadd 110 dX12_gained_109 rfl ?_
                                                  refine e_iald 111 dX12_gained_110 ar_929 (by omega) (by omega) rfl (fun r110 => ?_)
                                                  refine e_isub 112 dX12_gained_111 rfl ?_
                                                  refine e_iconst 113 dX12_gained_112 rfl ?_
                                                  refine e_iadd 114 dX12_gained_113 rfl ?_
                                                  refine e_i2l 115 dX12_gained_114 (by omega) rfl ?_
                                                  refine e_ldiv 116 dX12_gained_115 (by omega) (by omega) (by omega) rfl ?_
                                                  refine e_lret dX12_gained_116 ?_
                                                  first
                                                    | (exact ⟨by omega, hI⟩)
                                                    | (exfalso; omega)
                                                    | (refine ⟨?_, hI⟩
                                                       rw [show 1000 * rGain (M 929) k loan back hv = 100 * (rGain (M 929) k loan back hv * 10) by omega]
                                                       exact Int.mul_tdiv_mul_of_pos _ _ (by omega)))
                                            · first
                                               | (exfalso; omega)
                                               | (skip
                                                  refine e_ldc2 (z := (-5)) 77 (ix := 284) wd_1635 (by decide) dX12_gained_74 rfl ?_
                                                  refine e_lret dX12_gained_77 ?_
                                                  first
                                                    | (exact ⟨by omega, hI⟩)
                                                    | (exfalso; omega)
                                                    | (refine ⟨?_, hI⟩
                                                       rw [show 1000 * rGain (M 929) k loan back hv = 100 * (rGain (M 929) k loan back hv * 10) by omega]
                                                       exact Int.mul_tdiv_mul_of_pos _ _ (by omega))))
                                      · dsimp only [jpush]
                                        (try have hcr := rChg_rng (loan := loan) (hv := hv) hC.rlaw (by omega) (by omega))
                                        first
                                         | (exfalso; omega)
                                         | (skip
                                            refine e_istore (lsn := [(5, _), (0, _), (1, _), (2, _), (3, _), (4, _)]) 68 dX12_gained_66 (by decide) rfl rfl ?_
                                            refine e_iload 70 dX12_gained_68 rfl rfl ?_
                                            refine e_iconst 71 dX12_gained_70 rfl ?_
                                            refine e_icmp_ne 74 78 dX12_gained_71 (by decide) (by decide) (by decide) rfl (fun h => absurd h (by decide)) (fun _ => ?_)
                                            refine e_ldc2 (z := (-5)) 77 (ix := 284) wd_1635 (by decide) dX12_gained_74 rfl ?_
                                            refine e_lret dX12_gained_77 ?_
                                            first
                                              | (exact ⟨by omega, hI⟩)
                                              | (exfalso; omega)
                                              | (refine ⟨?_, hI⟩
                                                 rw [show 1000 * rGain (M 929) k loan back hv = 100 * (rGain (M 929) k loan back hv * 10) by omega]
                                                 exact Int.mul_tdiv_mul_of_pos _ _ (by omega))))
                                · dsimp only [jpush]
                                  first
                                   | (exfalso; omega)
                                   | (skip
                                      refine e_if_ne 54 58 dX12_gained_51 (by decide) (by decide) rfl (fun h => absurd h (by decide)) (fun _ => ?_)
                                      refine e_ldc2 (z := (-3)) 57 (ix := 282) wd_1634 (by decide) dX12_gained_54 rfl ?_
                                      refine e_lret dX12_gained_57 ?_
                                      first
                                        | (exact ⟨by omega, hI⟩)
                                        | (exfalso; omega)
                                        | (refine ⟨?_, hI⟩
                                           rw [show 1000 * rGain (M 929) k loan back hv = 100 * (rGain (M 929) k loan back hv * 10) by omega]
                                           exact Int.mul_tdiv_mul_of_pos _ _ (by omega))))
                          · dsimp only [jpush]
                            first
                             | (exfalso; omega)
                             | (skip
                                refine e_if_eq 41 54 dX12_gained_38 (by decide) (by decide) rfl (fun _ => ?_) (fun h => absurd h (by decide))
                                refine e_ldc2 (z := (-3)) 57 (ix := 282) wd_1634 (by decide) dX12_gained_54 rfl ?_
                                refine e_lret dX12_gained_57 ?_
                                first
                                  | (exact ⟨by omega, hI⟩)
                                  | (exfalso; omega)
                                  | (refine ⟨?_, hI⟩
                                     rw [show 1000 * rGain (M 929) k loan back hv = 100 * (rGain (M 929) k loan back hv * 10) by omega]
                                     exact Int.mul_tdiv_mul_of_pos _ _ (by omega))))
                    · dsimp only [jpush]
                      first
                       | (exfalso; omega)
                       | (skip
                          refine e_if_eq 29 54 dX12_gained_26 (by decide) (by decide) rfl (fun _ => ?_) (fun h => absurd h (by decide))
                          refine e_ldc2 (z := (-3)) 57 (ix := 282) wd_1634 (by decide) dX12_gained_54 rfl ?_
                          refine e_lret dX12_gained_57 ?_
                          first
                            | (exact ⟨by omega, hI⟩)
                            | (exfalso; omega)
                            | (refine ⟨?_, hI⟩
                               rw [show 1000 * rGain (M 929) k loan back hv = 100 * (rGain (M 929) k loan back hv * 10) by omega]
                               exact Int.mul_tdiv_mul_of_pos _ _ (by omega))))
              · dsimp only [jpush]
                first
                 | (exfalso; omega)
                 | (skip
                    refine e_if_ne 13 17 dX12_gained_10 (by decide) (by decide) rfl (fun h => absurd h (by decide)) (fun _ => ?_)
                    refine e_ldc2 (z := (-2)) 16 (ix := 280) wd_1633 (by decide) dX12_gained_13 rfl ?_
                    refine e_lret dX12_gained_16 ?_
                    first
                      | (exact ⟨by omega, hI⟩)
                      | (exfalso; omega)
                      | (refine ⟨?_, hI⟩
                         rw [show 1000 * rGain (M 929) k loan back hv = 100 * (rGain (M 929) k loan back hv * 10) by omega]
                         exact Int.mul_tdiv_mul_of_pos _ _ (by omega)))
          · dsimp only [jpush]
            refine e_if_ne 61 65 dX11_gained_58 (by decide) (by decide) rfl (fun h => absurd h (by decide)) (fun _ => ?_)
            refine e_ldc2 (z := (-5)) 64 (ix := 306) wd_934 (by decide) dX11_gained_61 rfl ?_
            refine e_lret dX11_gained_64 ?_
            refine jCt_of mt_yX12_gained (Nat.le_of_ble_eq_true rfl) (fun X2 => ?_)
            refine e_aload_n (i := 0) 1 dX12_gained_0 rfl rfl rfl ?_
            refine e_iconst 2 dX12_gained_1 rfl ?_
            refine e_put0 (j := 0) 5 fl_12_1 dX12_gained_2 at_928 rfl rfl rfl (by decide) hI.1 rfl ?_
            refine e_aload_n (i := 0) 6 dX12_gained_5 rfl rfl rfl ?_
            refine e_iload_n (i := 1) 7 dX12_gained_6 rfl rfl rfl ?_
            refine e_callV 10 mt_yX12_isKind mv_yX12_isKind wd_1619 (by decide) dX12_gained_7 at_928 jc_12 rfl rfl rfl (Nat.le_of_ble_eq_true rfl) (jroom (by decide)) rfl (m_isKind (by omega) (fun w7 => ?_) (fun w7 => ?_))
            · dsimp only [jpush]
              first
               | (exfalso; omega)
               | (skip
                  refine e_if_ne 13 17 dX12_gained_10 (by decide) (by decide) rfl (fun _ => ?_) (fun h => absurd h (by decide))
                  refine e_iload_n (i := 2) 18 dX12_gained_17 rfl rfl rfl ?_
                  refine e_i2l 19 dX12_gained_18 (by omega) rfl ?_
                  refine e_lconst1 20 dX12_gained_19 rfl ?_
                  refine e_ldc2 (z := (999)) 23 (ix := 198) wd_1482 (by decide) dX12_gained_20 rfl ?_
                  refine e_callS 26 mt_yX12_within ms_yX12_within wd_1390 (by decide) dX12_gained_23 rfl rfl (Nat.le_of_ble_eq_true rfl) (jroom (by decide)) rfl (m_within (by omega) (by omega) (by omega) (fun w23 => ?_) (fun w23 => ?_))
                  · dsimp only [jpush]
                    first
                     | (exfalso; omega)
                     | (skip
                        refine e_if_eq 29 54 dX12_gained_26 (by decide) (by decide) rfl (fun h => absurd h (by decide)) (fun _ => ?_)
                        refine e_iload_n (i := 3) 30 dX12_gained_29 rfl rfl rfl ?_
                        refine e_i2l 31 dX12_gained_30 (by omega) rfl ?_
                        refine e_lconst0 32 dX12_gained_31 rfl ?_
                        refine e_ldc2 (z := (100)) 35 (ix := 269) wd_1623 (by decide) dX12_gained_32 rfl ?_
                        refine e_callS 38 mt_yX12_within ms_yX12_within wd_1390 (by decide) dX12_gained_35 rfl rfl (Nat.le_of_ble_eq_true rfl) (jroom (by decide)) rfl (m_within (by omega) (by omega) (by omega) (fun w35 => ?_) (fun w35 => ?_))
                        · dsimp only [jpush]
                          first
                           | (exfalso; omega)
                           | (skip
                              refine e_if_eq 41 54 dX12_gained_38 (by decide) (by decide) rfl (fun h => absurd h (by decide)) (fun _ => ?_)
                              refine e_iload 43 dX12_gained_41 rfl rfl ?_
                              refine e_i2l 44 dX12_gained_43 (by omega) rfl ?_
                              refine e_lconst1 45 dX12_gained_44 rfl ?_
                              refine e_ldc2 (z := (52)) 48 (ix := 219) wd_1515 (by decide) dX12_gained_45 rfl ?_
                              refine e_callS 51 mt_yX12_within ms_yX12_within wd_1390 (by decide) dX12_gained_48 rfl rfl (Nat.le_of_ble_eq_true rfl) (jroom (by decide)) rfl (m_within (by omega) (by omega) (by omega) (fun w48 => ?_) (fun w48 => ?_))
                              · dsimp only [jpush]
                                first
                                 | (exfalso; omega)
                                 | (skip
                                    refine e_if_ne 54 58 dX12_gained_51 (by decide) (by decide) rfl (fun _ => ?_) (fun h => absurd h (by decide))
                                    refine e_aload_n (i := 0) 59 dX12_gained_58 rfl rfl rfl ?_
                                    refine e_iconst 60 dX12_gained_59 rfl ?_
                                    refine e_iload_n (i := 2) 61 dX12_gained_60 rfl rfl rfl ?_
                                    refine e_iload 63 dX12_gained_61 rfl rfl ?_
                                    refine e_callV 66 mt_yX12_interestBy mv_yX12_interestBy wd_1487 (by decide) dX12_gained_63 at_928 jc_12 rfl rfl rfl (Nat.le_of_ble_eq_true rfl) (jroom (by decide)) rfl (m_interestBy (by decide) (by omega) (by omega) hC.rlaw (fun w63 => ?_) (fun w63 => ?_))
                                    · dsimp only [jpush]
                                      (try have hcr := rChg_rng (loan := loan) (hv := hv) hC.rlaw (by omega) (by omega))
                                      first
                                       | (exfalso; omega)
                                       | (skip
                                          refine e_istore (lsn := [(5, _), (0, _), (1, _), (2, _), (3, _), (4, _)]) 68 dX12_gained_66 (by decide) rfl rfl ?_
                                          refine e_iload 70 dX12_gained_68 rfl rfl ?_
                                          refine e_iconst 71 dX12_gained_70 rfl ?_
                                          refine e_icmp_ne 74 78 dX12_gained_71 (by omega) (by decide) (by decide) rfl (fun b71 => ?_) (fun b71 => ?_)
                                          · first
                                             | (exfalso; omega)
                                             | (skip
                                                refine e_aload_n (i := 0) 79 dX12_gained_78 rfl rfl rfl ?_
                                                refine e_iload_n (i := 1) 80 dX12_gained_79 rfl rfl rfl ?_
                                                refine e_iload_n (i := 2) 81 dX12_gained_80 rfl rfl rfl ?_
                                                refine e_iload 83 dX12_gained_81 rfl rfl ?_
                                                refine e_iload_n (i := 3) 84 dX12_gained_83 rfl rfl rfl ?_
                                                refine e_callV 87 mt_yX12_gainedBy mv_yX12_gainedBy wd_1624 (by decide) dX12_gained_84 at_928 jc_12 rfl rfl rfl (Nat.le_of_ble_eq_true rfl) (jroom (by decide)) rfl (m_gain (hv := hv) hC (by omega) (by omega) (by omega) (by omega) ?_)
                                                dsimp only [jpush]
                                                refine e_ldc2 (z := (10)) 90 (ix := 286) wd_1636 (by decide) dX12_gained_87 rfl ?_
                                                refine e_lmul 91 dX12_gained_90 rfl ?_
                                                refine e_aload_n (i := 0) 92 dX12_gained_91 rfl rfl rfl ?_
                                                refine e_getr (j := 1) 95 fl_12_13 dX12_gained_92 at_928 rfl rfl tp_928_1 rfl ?_
                                                refine e_sipush 98 dX12_gained_95 (by decide) rfl ?_
                                                refine e_iload_n (i := 1) 99 dX12_gained_98 rfl rfl rfl ?_
                                                refine e_iadd 100 dX12_gained_99 rfl ?_
                                                refine e_iald 101 dX12_gained_100 ar_929 (by omega) (by omega) rfl (fun r100 => ?_)
                                                refine e_aload_n (i := 0) 102 dX12_gained_101 rfl rfl rfl ?_
                                                refine e_getr (j := 1) 105 fl_12_13 dX12_gained_102 at_928 rfl rfl tp_928_1 rfl ?_
                                                refine e_sipush 108 dX12_gained_105 (by decide) rfl ?_
                                                refine e_iload_n (i := 1) 109 dX12_gained_108 rfl rfl rfl ?_
                                                refine e_iadd 110 dX12_gained_109 rfl ?_
                                                refine e_iald 111 dX12_gained_110 ar_929 (by omega) (by omega) rfl (fun r110 => ?_)
                                                refine e_isub 112 dX12_gained_111 rfl ?_
                                                refine e_iconst 113 dX12_gained_112 rfl ?_
                                                refine e_iadd 114 dX12_gained_113 rfl ?_
                                                refine e_i2l 115 dX12_gained_114 (by omega) rfl ?_
                                                refine e_ldiv 116 dX12_gained_115 (by omega) (by omega) (by omega) rfl ?_
                                                refine e_lret dX12_gained_116 ?_
                                                first
                                                  | (exact ⟨by omega, hI⟩)
                                                  | (exfalso; omega)
                                                  | (refine ⟨?_, hI⟩
                                                     rw [show 1000 * rGain (M 929) k loan back hv = 100 * (rGain (M 929) k loan back hv * 10) by omega]
                                                     exact Int.mul_tdiv_mul_of_pos _ _ (by omega)))
                                          · first
                                             | (exfalso; omega)
                                             | (skip
                                                refine e_ldc2 (z := (-5)) 77 (ix := 284) wd_1635 (by decide) dX12_gained_74 rfl ?_
                                                refine e_lret dX12_gained_77 ?_
                                                first
                                                  | (exact ⟨by omega, hI⟩)
                                                  | (exfalso; omega)
                                                  | (refine ⟨?_, hI⟩
                                                     rw [show 1000 * rGain (M 929) k loan back hv = 100 * (rGain (M 929) k loan back hv * 10) by omega]
                                                     exact Int.mul_tdiv_mul_of_pos _ _ (by omega))))
                                    · dsimp only [jpush]
                                      (try have hcr := rChg_rng (loan := loan) (hv := hv) hC.rlaw (by omega) (by omega))
                                      first
                                       | (exfalso; omega)
                                       | (skip
                                          refine e_istore (lsn := [(5, _), (0, _), (1, _), (2, _), (3, _), (4, _)]) 68 dX12_gained_66 (by decide) rfl rfl ?_
                                          refine e_iload 70 dX12_gained_68 rfl rfl ?_
                                          refine e_iconst 71 dX12_gained_70 rfl ?_
                                          refine e_icmp_ne 74 78 dX12_gained_71 (by decide) (by decide) (by decide) rfl (fun h => absurd h (by decide)) (fun _ => ?_)
                                          refine e_ldc2 (z := (-5)) 77 (ix := 284) wd_1635 (by decide) dX12_gained_74 rfl ?_
                                          refine e_lret dX12_gained_77 ?_
                                          first
                                            | (exact ⟨by omega, hI⟩)
                                            | (exfalso; omega)
                                            | (refine ⟨?_, hI⟩
                                               rw [show 1000 * rGain (M 929) k loan back hv = 100 * (rGain (M 929) k loan back hv * 10) by omega]
                                               exact Int.mul_tdiv_mul_of_pos _ _ (by omega))))
                              · dsimp only [jpush]
                                first
                                 | (exfalso; omega)
                                 | (skip
                                    refine e_if_ne 54 58 dX12_gained_51 (by decide) (by decide) rfl (fun h => absurd h (by decide)) (fun _ => ?_)
                                    refine e_ldc2 (z := (-3)) 57 (ix := 282) wd_1634 (by decide) dX12_gained_54 rfl ?_
                                    refine e_lret dX12_gained_57 ?_
                                    first
                                      | (exact ⟨by omega, hI⟩)
                                      | (exfalso; omega)
                                      | (refine ⟨?_, hI⟩
                                         rw [show 1000 * rGain (M 929) k loan back hv = 100 * (rGain (M 929) k loan back hv * 10) by omega]
                                         exact Int.mul_tdiv_mul_of_pos _ _ (by omega))))
                        · dsimp only [jpush]
                          first
                           | (exfalso; omega)
                           | (skip
                              refine e_if_eq 41 54 dX12_gained_38 (by decide) (by decide) rfl (fun _ => ?_) (fun h => absurd h (by decide))
                              refine e_ldc2 (z := (-3)) 57 (ix := 282) wd_1634 (by decide) dX12_gained_54 rfl ?_
                              refine e_lret dX12_gained_57 ?_
                              first
                                | (exact ⟨by omega, hI⟩)
                                | (exfalso; omega)
                                | (refine ⟨?_, hI⟩
                                   rw [show 1000 * rGain (M 929) k loan back hv = 100 * (rGain (M 929) k loan back hv * 10) by omega]
                                   exact Int.mul_tdiv_mul_of_pos _ _ (by omega))))
                  · dsimp only [jpush]
                    first
                     | (exfalso; omega)
                     | (skip
                        refine e_if_eq 29 54 dX12_gained_26 (by decide) (by decide) rfl (fun _ => ?_) (fun h => absurd h (by decide))
                        refine e_ldc2 (z := (-3)) 57 (ix := 282) wd_1634 (by decide) dX12_gained_54 rfl ?_
                        refine e_lret dX12_gained_57 ?_
                        first
                          | (exact ⟨by omega, hI⟩)
                          | (exfalso; omega)
                          | (refine ⟨?_, hI⟩
                             rw [show 1000 * rGain (M 929) k loan back hv = 100 * (rGain (M 929) k loan back hv * 10) by omega]
                             exact Int.mul_tdiv_mul_of_pos _ _ (by omega))))
            · dsimp only [jpush]
              first
               | (exfalso; omega)
               | (skip
                  refine e_if_ne 13 17 dX12_gained_10 (by decide) (by decide) rfl (fun h => absurd h (by decide)) (fun _ => ?_)
                  refine e_ldc2 (z := (-2)) 16 (ix := 280) wd_1633 (by decide) dX12_gained_13 rfl ?_
                  refine e_lret dX12_gained_16 ?_
                  first
                    | (exact ⟨by omega, hI⟩)
                    | (exfalso; omega)
                    | (refine ⟨?_, hI⟩
                       rw [show 1000 * rGain (M 929) k loan back hv = 100 * (rGain (M 929) k loan back hv * 10) by omega]
                       exact Int.mul_tdiv_mul_of_pos _ _ (by omega)))
        · dsimp only [jpush]
          refine e_if_ne 43 47 dX11_gained_40 (by decide) (by decide) rfl (fun h => absurd h (by decide)) (fun _ => ?_)
          refine e_ldc2 (z := (-3)) 46 (ix := 304) wd_933 (by decide) dX11_gained_43 rfl ?_
          refine e_lret dX11_gained_46 ?_
          refine jCt_of mt_yX12_gained (Nat.le_of_ble_eq_true rfl) (fun X2 => ?_)
          refine e_aload_n (i := 0) 1 dX12_gained_0 rfl rfl rfl ?_
          refine e_iconst 2 dX12_gained_1 rfl ?_
          refine e_put0 (j := 0) 5 fl_12_1 dX12_gained_2 at_928 rfl rfl rfl (by decide) hI.1 rfl ?_
          refine e_aload_n (i := 0) 6 dX12_gained_5 rfl rfl rfl ?_
          refine e_iload_n (i := 1) 7 dX12_gained_6 rfl rfl rfl ?_
          refine e_callV 10 mt_yX12_isKind mv_yX12_isKind wd_1619 (by decide) dX12_gained_7 at_928 jc_12 rfl rfl rfl (Nat.le_of_ble_eq_true rfl) (jroom (by decide)) rfl (m_isKind (by omega) (fun w7 => ?_) (fun w7 => ?_))
          · dsimp only [jpush]
            first
             | (exfalso; omega)
             | (skip
                refine e_if_ne 13 17 dX12_gained_10 (by decide) (by decide) rfl (fun _ => ?_) (fun h => absurd h (by decide))
                refine e_iload_n (i := 2) 18 dX12_gained_17 rfl rfl rfl ?_
                refine e_i2l 19 dX12_gained_18 (by omega) rfl ?_
                refine e_lconst1 20 dX12_gained_19 rfl ?_
                refine e_ldc2 (z := (999)) 23 (ix := 198) wd_1482 (by decide) dX12_gained_20 rfl ?_
                refine e_callS 26 mt_yX12_within ms_yX12_within wd_1390 (by decide) dX12_gained_23 rfl rfl (Nat.le_of_ble_eq_true rfl) (jroom (by decide)) rfl (m_within (by omega) (by omega) (by omega) (fun w23 => ?_) (fun w23 => ?_))
                · dsimp only [jpush]
                  first
                   | (exfalso; omega)
                   | (skip
                      refine e_if_eq 29 54 dX12_gained_26 (by decide) (by decide) rfl (fun h => absurd h (by decide)) (fun _ => ?_)
                      refine e_iload_n (i := 3) 30 dX12_gained_29 rfl rfl rfl ?_
                      refine e_i2l 31 dX12_gained_30 (by omega) rfl ?_
                      refine e_lconst0 32 dX12_gained_31 rfl ?_
                      refine e_ldc2 (z := (100)) 35 (ix := 269) wd_1623 (by decide) dX12_gained_32 rfl ?_
                      refine e_callS 38 mt_yX12_within ms_yX12_within wd_1390 (by decide) dX12_gained_35 rfl rfl (Nat.le_of_ble_eq_true rfl) (jroom (by decide)) rfl (m_within (by omega) (by omega) (by omega) (fun w35 => ?_) (fun w35 => ?_))
                      · dsimp only [jpush]
                        first
                         | (exfalso; omega)
                         | (skip
                            refine e_if_eq 41 54 dX12_gained_38 (by decide) (by decide) rfl (fun h => absurd h (by decide)) (fun _ => ?_)
                            refine e_iload 43 dX12_gained_41 rfl rfl ?_
                            refine e_i2l 44 dX12_gained_43 (by omega) rfl ?_
                            refine e_lconst1 45 dX12_gained_44 rfl ?_
                            refine e_ldc2 (z := (52)) 48 (ix := 219) wd_1515 (by decide) dX12_gained_45 rfl ?_
                            refine e_callS 51 mt_yX12_within ms_yX12_within wd_1390 (by decide) dX12_gained_48 rfl rfl (Nat.le_of_ble_eq_true rfl) (jroom (by decide)) rfl (m_within (by omega) (by omega) (by omega) (fun w48 => ?_) (fun w48 => ?_))
                            · dsimp only [jpush]
                              first
                               | (exfalso; omega)
                               | (skip
                                  refine e_if_ne 54 58 dX12_gained_51 (by decide) (by decide) rfl (fun _ => ?_) (fun h => absurd h (by decide))
                                  refine e_aload_n (i := 0) 59 dX12_gained_58 rfl rfl rfl ?_
                                  refine e_iconst 60 dX12_gained_59 rfl ?_
                                  refine e_iload_n (i := 2) 61 dX12_gained_60 rfl rfl rfl ?_
                                  refine e_iload 63 dX12_gained_61 rfl rfl ?_
                                  refine e_callV 66 mt_yX12_interestBy mv_yX12_interestBy wd_1487 (by decide) dX12_gained_63 at_928 jc_12 rfl rfl rfl (Nat.le_of_ble_eq_true rfl) (jroom (by decide)) rfl (m_interestBy (by decide) (by omega) (by omega) hC.rlaw (fun w63 => ?_) (fun w63 => ?_))
                                  · dsimp only [jpush]
                                    (try have hcr := rChg_rng (loan := loan) (hv := hv) hC.rlaw (by omega) (by omega))
                                    first
                                     | (exfalso; omega)
                                     | (skip
                                        refine e_istore (lsn := [(5, _), (0, _), (1, _), (2, _), (3, _), (4, _)]) 68 dX12_gained_66 (by decide) rfl rfl ?_
                                        refine e_iload 70 dX12_gained_68 rfl rfl ?_
                                        refine e_iconst 71 dX12_gained_70 rfl ?_
                                        refine e_icmp_ne 74 78 dX12_gained_71 (by omega) (by decide) (by decide) rfl (fun b71 => ?_) (fun b71 => ?_)
                                        · first
                                           | (exfalso; omega)
                                           | (skip
                                              refine e_aload_n (i := 0) 79 dX12_gained_78 rfl rfl rfl ?_
                                              refine e_iload_n (i := 1) 80 dX12_gained_79 rfl rfl rfl ?_
                                              refine e_iload_n (i := 2) 81 dX12_gained_80 rfl rfl rfl ?_
                                              refine e_iload 83 dX12_gained_81 rfl rfl ?_
                                              refine e_iload_n (i := 3) 84 dX12_gained_83 rfl rfl rfl ?_
                                              refine e_callV 87 mt_yX12_gainedBy mv_yX12_gainedBy wd_1624 (by decide) dX12_gained_84 at_928 jc_12 rfl rfl rfl (Nat.le_of_ble_eq_true rfl) (jroom (by decide)) rfl (m_gain (hv := hv) hC (by omega) (by omega) (by omega) (by omega) ?_)
                                              dsimp only [jpush]
                                              refine e_ldc2 (z := (10)) 90 (ix := 286) wd_1636 (by decide) dX12_gained_87 rfl ?_
                                              refine e_lmul 91 dX12_gained_90 rfl ?_
                                              refine e_aload_n (i := 0) 92 dX12_gained_91 rfl rfl rfl ?_
                                              refine e_getr (j := 1) 95 fl_12_13 dX12_gained_92 at_928 rfl rfl tp_928_1 rfl ?_
                                              refine e_sipush 98 dX12_gained_95 (by decide) rfl ?_
                                              refine e_iload_n (i := 1) 99 dX12_gained_98 rfl rfl rfl ?_
                                              refine e_iadd 100 dX12_gained_99 rfl ?_
                                              refine e_iald 101 dX12_gained_100 ar_929 (by omega) (by omega) rfl (fun r100 => ?_)
                                              refine e_aload_n (i := 0) 102 dX12_gained_101 rfl rfl rfl ?_
                                              refine e_getr (j := 1) 105 fl_12_13 dX12_gained_102 at_928 rfl rfl tp_928_1 rfl ?_
                                              refine e_sipush 108 dX12_gained_105 (by decide) rfl ?_
                                              refine e_iload_n (i := 1) 109 dX12_gained_108 rfl rfl rfl ?_
                                              refine e_iadd 110 dX12_gained_109 rfl ?_
                                              refine e_iald 111 dX12_gained_110 ar_929 (by omega) (by omega) rfl (fun r110 => ?_)
                                              refine e_isub 112 dX12_gained_111 rfl ?_
                                              refine e_iconst 113 dX12_gained_112 rfl ?_
                                              refine e_iadd 114 dX12_gained_113 rfl ?_
                                              refine e_i2l 115 dX12_gained_114 (by omega) rfl ?_
                                              refine e_ldiv 116 dX12_gained_115 (by omega) (by omega) (by omega) rfl ?_
                                              refine e_lret dX12_gained_116 ?_
                                              first
                                                | (exact ⟨by omega, hI⟩)
                                                | (exfalso; omega)
                                                | (refine ⟨?_, hI⟩
                                                   rw [show 1000 * rGain (M 929) k loan back hv = 100 * (rGain (M 929) k loan back hv * 10) by omega]
                                                   exact Int.mul_tdiv_mul_of_pos _ _ (by omega)))
                                        · first
                                           | (exfalso; omega)
                                           | (skip
                                              refine e_ldc2 (z := (-5)) 77 (ix := 284) wd_1635 (by decide) dX12_gained_74 rfl ?_
                                              refine e_lret dX12_gained_77 ?_
                                              first
                                                | (exact ⟨by omega, hI⟩)
                                                | (exfalso; omega)
                                                | (refine ⟨?_, hI⟩
                                                   rw [show 1000 * rGain (M 929) k loan back hv = 100 * (rGain (M 929) k loan back hv * 10) by omega]
                                                   exact Int.mul_tdiv_mul_of_pos _ _ (by omega))))
                                  · dsimp only [jpush]
                                    (try have hcr := rChg_rng (loan := loan) (hv := hv) hC.rlaw (by omega) (by omega))
                                    first
                                     | (exfalso; omega)
                                     | (skip
                                        refine e_istore (lsn := [(5, _), (0, _), (1, _), (2, _), (3, _), (4, _)]) 68 dX12_gained_66 (by decide) rfl rfl ?_
                                        refine e_iload 70 dX12_gained_68 rfl rfl ?_
                                        refine e_iconst 71 dX12_gained_70 rfl ?_
                                        refine e_icmp_ne 74 78 dX12_gained_71 (by decide) (by decide) (by decide) rfl (fun h => absurd h (by decide)) (fun _ => ?_)
                                        refine e_ldc2 (z := (-5)) 77 (ix := 284) wd_1635 (by decide) dX12_gained_74 rfl ?_
                                        refine e_lret dX12_gained_77 ?_
                                        first
                                          | (exact ⟨by omega, hI⟩)
                                          | (exfalso; omega)
                                          | (refine ⟨?_, hI⟩
                                             rw [show 1000 * rGain (M 929) k loan back hv = 100 * (rGain (M 929) k loan back hv * 10) by omega]
                                             exact Int.mul_tdiv_mul_of_pos _ _ (by omega))))
                            · dsimp only [jpush]
                              first
                               | (exfalso; omega)
                               | (skip
                                  refine e_if_ne 54 58 dX12_gained_51 (by decide) (by decide) rfl (fun h => absurd h (by decide)) (fun _ => ?_)
                                  refine e_ldc2 (z := (-3)) 57 (ix := 282) wd_1634 (by decide) dX12_gained_54 rfl ?_
                                  refine e_lret dX12_gained_57 ?_
                                  first
                                    | (exact ⟨by omega, hI⟩)
                                    | (exfalso; omega)
                                    | (refine ⟨?_, hI⟩
                                       rw [show 1000 * rGain (M 929) k loan back hv = 100 * (rGain (M 929) k loan back hv * 10) by omega]
                                       exact Int.mul_tdiv_mul_of_pos _ _ (by omega))))
                      · dsimp only [jpush]
                        first
                         | (exfalso; omega)
                         | (skip
                            refine e_if_eq 41 54 dX12_gained_38 (by decide) (by decide) rfl (fun _ => ?_) (fun h => absurd h (by decide))
                            refine e_ldc2 (z := (-3)) 57 (ix := 282) wd_1634 (by decide) dX12_gained_54 rfl ?_
                            refine e_lret dX12_gained_57 ?_
                            first
                              | (exact ⟨by omega, hI⟩)
                              | (exfalso; omega)
                              | (refine ⟨?_, hI⟩
                                 rw [show 1000 * rGain (M 929) k loan back hv = 100 * (rGain (M 929) k loan back hv * 10) by omega]
                                 exact Int.mul_tdiv_mul_of_pos _ _ (by omega))))
                · dsimp only [jpush]
                  first
                   | (exfalso; omega)
                   | (skip
                      refine e_if_eq 29 54 dX12_gained_26 (by decide) (by decide) rfl (fun _ => ?_) (fun h => absurd h (by decide))
                      refine e_ldc2 (z := (-3)) 57 (ix := 282) wd_1634 (by decide) dX12_gained_54 rfl ?_
                      refine e_lret dX12_gained_57 ?_
                      first
                        | (exact ⟨by omega, hI⟩)
                        | (exfalso; omega)
                        | (refine ⟨?_, hI⟩
                           rw [show 1000 * rGain (M 929) k loan back hv = 100 * (rGain (M 929) k loan back hv * 10) by omega]
                           exact Int.mul_tdiv_mul_of_pos _ _ (by omega))))
          · dsimp only [jpush]
            first
             | (exfalso; omega)
             | (skip
                refine e_if_ne 13 17 dX12_gained_10 (by decide) (by decide) rfl (fun h => absurd h (by decide)) (fun _ => ?_)
                refine e_ldc2 (z := (-2)) 16 (ix := 280) wd_1633 (by decide) dX12_gained_13 rfl ?_
                refine e_lret dX12_gained_16 ?_
                first
                  | (exact ⟨by omega, hI⟩)
                  | (exfalso; omega)
                  | (refine ⟨?_, hI⟩
                     rw [show 1000 * rGain (M 929) k loan back hv = 100 * (rGain (M 929) k loan back hv * 10) by omega]
                     exact Int.mul_tdiv_mul_of_pos _ _ (by omega)))
      · dsimp only [jpush]
        refine e_if_eq 32 43 dX11_gained_29 (by decide) (by decide) rfl (fun _ => ?_) (fun h => absurd h (by decide))
        refine e_ldc2 (z := (-3)) 46 (ix := 304) wd_933 (by decide) dX11_gained_43 rfl ?_
        refine e_lret dX11_gained_46 ?_
        refine jCt_of mt_yX12_gained (Nat.le_of_ble_eq_true rfl) (fun X2 => ?_)
        refine e_aload_n (i := 0) 1 dX12_gained_0 rfl rfl rfl ?_
        refine e_iconst 2 dX12_gained_1 rfl ?_
        refine e_put0 (j := 0) 5 fl_12_1 dX12_gained_2 at_928 rfl rfl rfl (by decide) hI.1 rfl ?_
        refine e_aload_n (i := 0) 6 dX12_gained_5 rfl rfl rfl ?_
        refine e_iload_n (i := 1) 7 dX12_gained_6 rfl rfl rfl ?_
        refine e_callV 10 mt_yX12_isKind mv_yX12_isKind wd_1619 (by decide) dX12_gained_7 at_928 jc_12 rfl rfl rfl (Nat.le_of_ble_eq_true rfl) (jroom (by decide)) rfl (m_isKind (by omega) (fun w7 => ?_) (fun w7 => ?_))
        · dsimp only [jpush]
          first
           | (exfalso; omega)
           | (skip
              refine e_if_ne 13 17 dX12_gained_10 (by decide) (by decide) rfl (fun _ => ?_) (fun h => absurd h (by decide))
              refine e_iload_n (i := 2) 18 dX12_gained_17 rfl rfl rfl ?_
              refine e_i2l 19 dX12_gained_18 (by omega) rfl ?_
              refine e_lconst1 20 dX12_gained_19 rfl ?_
              refine e_ldc2 (z := (999)) 23 (ix := 198) wd_1482 (by decide) dX12_gained_20 rfl ?_
              refine e_callS 26 mt_yX12_within ms_yX12_within wd_1390 (by decide) dX12_gained_23 rfl rfl (Nat.le_of_ble_eq_true rfl) (jroom (by decide)) rfl (m_within (by omega) (by omega) (by omega) (fun w23 => ?_) (fun w23 => ?_))
              · dsimp only [jpush]
                first
                 | (exfalso; omega)
                 | (skip
                    refine e_if_eq 29 54 dX12_gained_26 (by decide) (by decide) rfl (fun h => absurd h (by decide)) (fun _ => ?_)
                    refine e_iload_n (i := 3) 30 dX12_gained_29 rfl rfl rfl ?_
                    refine e_i2l 31 dX12_gained_30 (by omega) rfl ?_
                    refine e_lconst0 32 dX12_gained_31 rfl ?_
                    refine e_ldc2 (z := (100)) 35 (ix := 269) wd_1623 (by decide) dX12_gained_32 rfl ?_
                    refine e_callS 38 mt_yX12_within ms_yX12_within wd_1390 (by decide) dX12_gained_35 rfl rfl (Nat.le_of_ble_eq_true rfl) (jroom (by decide)) rfl (m_within (by omega) (by omega) (by omega) (fun w35 => ?_) (fun w35 => ?_))
                    · dsimp only [jpush]
                      first
                       | (exfalso; omega)
                       | (skip
                          refine e_if_eq 41 54 dX12_gained_38 (by decide) (by decide) rfl (fun h => absurd h (by decide)) (fun _ => ?_)
                          refine e_iload 43 dX12_gained_41 rfl rfl ?_
                          refine e_i2l 44 dX12_gained_43 (by omega) rfl ?_
                          refine e_lconst1 45 dX12_gained_44 rfl ?_
                          refine e_ldc2 (z := (52)) 48 (ix := 219) wd_1515 (by decide) dX12_gained_45 rfl ?_
                          refine e_callS 51 mt_yX12_within ms_yX12_within wd_1390 (by decide) dX12_gained_48 rfl rfl (Nat.le_of_ble_eq_true rfl) (jroom (by decide)) rfl (m_within (by omega) (by omega) (by omega) (fun w48 => ?_) (fun w48 => ?_))
                          · dsimp only [jpush]
                            first
                             | (exfalso; omega)
                             | (skip
                                refine e_if_ne 54 58 dX12_gained_51 (by decide) (by decide) rfl (fun _ => ?_) (fun h => absurd h (by decide))
                                refine e_aload_n (i := 0) 59 dX12_gained_58 rfl rfl rfl ?_
                                refine e_iconst 60 dX12_gained_59 rfl ?_
                                refine e_iload_n (i := 2) 61 dX12_gained_60 rfl rfl rfl ?_
                                refine e_iload 63 dX12_gained_61 rfl rfl ?_
                                refine e_callV 66 mt_yX12_interestBy mv_yX12_interestBy wd_1487 (by decide) dX12_gained_63 at_928 jc_12 rfl rfl rfl (Nat.le_of_ble_eq_true rfl) (jroom (by decide)) rfl (m_interestBy (by decide) (by omega) (by omega) hC.rlaw (fun w63 => ?_) (fun w63 => ?_))
                                · dsimp only [jpush]
                                  (try have hcr := rChg_rng (loan := loan) (hv := hv) hC.rlaw (by omega) (by omega))
                                  first
                                   | (exfalso; omega)
                                   | (skip
                                      refine e_istore (lsn := [(5, _), (0, _), (1, _), (2, _), (3, _), (4, _)]) 68 dX12_gained_66 (by decide) rfl rfl ?_
                                      refine e_iload 70 dX12_gained_68 rfl rfl ?_
                                      refine e_iconst 71 dX12_gained_70 rfl ?_
                                      refine e_icmp_ne 74 78 dX12_gained_71 (by omega) (by decide) (by decide) rfl (fun b71 => ?_) (fun b71 => ?_)
                                      · first
                                         | (exfalso; omega)
                                         | (skip
                                            refine e_aload_n (i := 0) 79 dX12_gained_78 rfl rfl rfl ?_
                                            refine e_iload_n (i := 1) 80 dX12_gained_79 rfl rfl rfl ?_
                                            refine e_iload_n (i := 2) 81 dX12_gained_80 rfl rfl rfl ?_
                                            refine e_iload 83 dX12_gained_81 rfl rfl ?_
                                            refine e_iload_n (i := 3) 84 dX12_gained_83 rfl rfl rfl ?_
                                            refine e_callV 87 mt_yX12_gainedBy mv_yX12_gainedBy wd_1624 (by decide) dX12_gained_84 at_928 jc_12 rfl rfl rfl (Nat.le_of_ble_eq_true rfl) (jroom (by decide)) rfl (m_gain (hv := hv) hC (by omega) (by omega) (by omega) (by omega) ?_)
                                            dsimp only [jpush]
                                            refine e_ldc2 (z := (10)) 90 (ix := 286) wd_1636 (by decide) dX12_gained_87 rfl ?_
                                            refine e_lmul 91 dX12_gained_90 rfl ?_
                                            refine e_aload_n (i := 0) 92 dX12_gained_91 rfl rfl rfl ?_
                                            refine e_getr (j := 1) 95 fl_12_13 dX12_gained_92 at_928 rfl rfl tp_928_1 rfl ?_
                                            refine e_sipush 98 dX12_gained_95 (by decide) rfl ?_
                                            refine e_iload_n (i := 1) 99 dX12_gained_98 rfl rfl rfl ?_
                                            refine e_iadd 100 dX12_gained_99 rfl ?_
                                            refine e_iald 101 dX12_gained_100 ar_929 (by omega) (by omega) rfl (fun r100 => ?_)
                                            refine e_aload_n (i := 0) 102 dX12_gained_101 rfl rfl rfl ?_
                                            refine e_getr (j := 1) 105 fl_12_13 dX12_gained_102 at_928 rfl rfl tp_928_1 rfl ?_
                                            refine e_sipush 108 dX12_gained_105 (by decide) rfl ?_
                                            refine e_iload_n (i := 1) 109 dX12_gained_108 rfl rfl rfl ?_
                                            refine e_iadd 110 dX12_gained_109 rfl ?_
                                            refine e_iald 111 dX12_gained_110 ar_929 (by omega) (by omega) rfl (fun r110 => ?_)
                                            refine e_isub 112 dX12_gained_111 rfl ?_
                                            refine e_iconst 113 dX12_gained_112 rfl ?_
                                            refine e_iadd 114 dX12_gained_113 rfl ?_
                                            refine e_i2l 115 dX12_gained_114 (by omega) rfl ?_
                                            refine e_ldiv 116 dX12_gained_115 (by omega) (by omega) (by omega) rfl ?_
                                            refine e_lret dX12_gained_116 ?_
                                            first
                                              | (exact ⟨by omega, hI⟩)
                                              | (exfalso; omega)
                                              | (refine ⟨?_, hI⟩
                                                 rw [show 1000 * rGain (M 929) k loan back hv = 100 * (rGain (M 929) k loan back hv * 10) by omega]
                                                 exact Int.mul_tdiv_mul_of_pos _ _ (by omega)))
                                      · first
                                         | (exfalso; omega)
                                         | (skip
                                            refine e_ldc2 (z := (-5)) 77 (ix := 284) wd_1635 (by decide) dX12_gained_74 rfl ?_
                                            refine e_lret dX12_gained_77 ?_
                                            first
                                              | (exact ⟨by omega, hI⟩)
                                              | (exfalso; omega)
                                              | (refine ⟨?_, hI⟩
                                                 rw [show 1000 * rGain (M 929) k loan back hv = 100 * (rGain (M 929) k loan back hv * 10) by omega]
                                                 exact Int.mul_tdiv_mul_of_pos _ _ (by omega))))
                                · dsimp only [jpush]
                                  (try have hcr := rChg_rng (loan := loan) (hv := hv) hC.rlaw (by omega) (by omega))
                                  first
                                   | (exfalso; omega)
                                   | (skip
                                      refine e_istore (lsn := [(5, _), (0, _), (1, _), (2, _), (3, _), (4, _)]) 68 dX12_gained_66 (by decide) rfl rfl ?_
                                      refine e_iload 70 dX12_gained_68 rfl rfl ?_
                                      refine e_iconst 71 dX12_gained_70 rfl ?_
                                      refine e_icmp_ne 74 78 dX12_gained_71 (by decide) (by decide) (by decide) rfl (fun h => absurd h (by decide)) (fun _ => ?_)
                                      refine e_ldc2 (z := (-5)) 77 (ix := 284) wd_1635 (by decide) dX12_gained_74 rfl ?_
                                      refine e_lret dX12_gained_77 ?_
                                      first
                                        | (exact ⟨by omega, hI⟩)
                                        | (exfalso; omega)
                                        | (refine ⟨?_, hI⟩
                                           rw [show 1000 * rGain (M 929) k loan back hv = 100 * (rGain (M 929) k loan back hv * 10) by omega]
                                           exact Int.mul_tdiv_mul_of_pos _ _ (by omega))))
                          · dsimp only [jpush]
                            first
                             | (exfalso; omega)
                             | (skip
                                refine e_if_ne 54 58 dX12_gained_51 (by decide) (by decide) rfl (fun h => absurd h (by decide)) (fun _ => ?_)
                                refine e_ldc2 (z := (-3)) 57 (ix := 282) wd_1634 (by decide) dX12_gained_54 rfl ?_
                                refine e_lret dX12_gained_57 ?_
                                first
                                  | (exact ⟨by omega, hI⟩)
                                  | (exfalso; omega)
                                  | (refine ⟨?_, hI⟩
                                     rw [show 1000 * rGain (M 929) k loan back hv = 100 * (rGain (M 929) k loan back hv * 10) by omega]
                                     exact Int.mul_tdiv_mul_of_pos _ _ (by omega))))
                    · dsimp only [jpush]
                      first
                       | (exfalso; omega)
                       | (skip
                          refine e_if_eq 41 54 dX12_gained_38 (by decide) (by decide) rfl (fun _ => ?_) (fun h => absurd h (by decide))
                          refine e_ldc2 (z := (-3)) 57 (ix := 282) wd_1634 (by decide) dX12_gained_54 rfl ?_
                          refine e_lret dX12_gained_57 ?_
                          first
                            | (exact ⟨by omega, hI⟩)
                            | (exfalso; omega)
                            | (refine ⟨?_, hI⟩
                               rw [show 1000 * rGain (M 929) k loan back hv = 100 * (rGain (M 929) k loan back hv * 10) by omega]
                               exact Int.mul_tdiv_mul_of_pos _ _ (by omega))))
              · dsimp only [jpush]
                first
                 | (exfalso; omega)
                 | (skip
                    refine e_if_eq 29 54 dX12_gained_26 (by decide) (by decide) rfl (fun _ => ?_) (fun h => absurd h (by decide))
                    refine e_ldc2 (z := (-3)) 57 (ix := 282) wd_1634 (by decide) dX12_gained_54 rfl ?_
                    refine e_lret dX12_gained_57 ?_
                    first
                      | (exact ⟨by omega, hI⟩)
                      | (exfalso; omega)
                      | (refine ⟨?_, hI⟩
                         rw [show 1000 * rGain (M 929) k loan back hv = 100 * (rGain (M 929) k loan back hv * 10) by omega]
                         exact Int.mul_tdiv_mul_of_pos _ _ (by omega))))
        · dsimp only [jpush]
          first
           | (exfalso; omega)
           | (skip
              refine e_if_ne 13 17 dX12_gained_10 (by decide) (by decide) rfl (fun h => absurd h (by decide)) (fun _ => ?_)
              refine e_ldc2 (z := (-2)) 16 (ix := 280) wd_1633 (by decide) dX12_gained_13 rfl ?_
              refine e_lret dX12_gained_16 ?_
              first
                | (exact ⟨by omega, hI⟩)
                | (exfalso; omega)
                | (refine ⟨?_, hI⟩
                   rw [show 1000 * rGain (M 929) k loan back hv = 100 * (rGain (M 929) k loan back hv * 10) by omega]
                   exact Int.mul_tdiv_mul_of_pos _ _ (by omega)))
    · dsimp only [jpush]
      refine e_if_eq 22 43 dX11_gained_19 (by decide) (by decide) rfl (fun _ => ?_) (fun h => absurd h (by decide))
      refine e_ldc2 (z := (-3)) 46 (ix := 304) wd_933 (by decide) dX11_gained_43 rfl ?_
      refine e_lret dX11_gained_46 ?_
      refine jCt_of mt_yX12_gained (Nat.le_of_ble_eq_true rfl) (fun X2 => ?_)
      refine e_aload_n (i := 0) 1 dX12_gained_0 rfl rfl rfl ?_
      refine e_iconst 2 dX12_gained_1 rfl ?_
      refine e_put0 (j := 0) 5 fl_12_1 dX12_gained_2 at_928 rfl rfl rfl (by decide) hI.1 rfl ?_
      refine e_aload_n (i := 0) 6 dX12_gained_5 rfl rfl rfl ?_
      refine e_iload_n (i := 1) 7 dX12_gained_6 rfl rfl rfl ?_
      refine e_callV 10 mt_yX12_isKind mv_yX12_isKind wd_1619 (by decide) dX12_gained_7 at_928 jc_12 rfl rfl rfl (Nat.le_of_ble_eq_true rfl) (jroom (by decide)) rfl (m_isKind (by omega) (fun w7 => ?_) (fun w7 => ?_))
      · dsimp only [jpush]
        first
         | (exfalso; omega)
         | (skip
            refine e_if_ne 13 17 dX12_gained_10 (by decide) (by decide) rfl (fun _ => ?_) (fun h => absurd h (by decide))
            refine e_iload_n (i := 2) 18 dX12_gained_17 rfl rfl rfl ?_
            refine e_i2l 19 dX12_gained_18 (by omega) rfl ?_
            refine e_lconst1 20 dX12_gained_19 rfl ?_
            refine e_ldc2 (z := (999)) 23 (ix := 198) wd_1482 (by decide) dX12_gained_20 rfl ?_
            refine e_callS 26 mt_yX12_within ms_yX12_within wd_1390 (by decide) dX12_gained_23 rfl rfl (Nat.le_of_ble_eq_true rfl) (jroom (by decide)) rfl (m_within (by omega) (by omega) (by omega) (fun w23 => ?_) (fun w23 => ?_))
            · dsimp only [jpush]
              first
               | (exfalso; omega)
               | (skip
                  refine e_if_eq 29 54 dX12_gained_26 (by decide) (by decide) rfl (fun h => absurd h (by decide)) (fun _ => ?_)
                  refine e_iload_n (i := 3) 30 dX12_gained_29 rfl rfl rfl ?_
                  refine e_i2l 31 dX12_gained_30 (by omega) rfl ?_
                  refine e_lconst0 32 dX12_gained_31 rfl ?_
                  refine e_ldc2 (z := (100)) 35 (ix := 269) wd_1623 (by decide) dX12_gained_32 rfl ?_
                  refine e_callS 38 mt_yX12_within ms_yX12_within wd_1390 (by decide) dX12_gained_35 rfl rfl (Nat.le_of_ble_eq_true rfl) (jroom (by decide)) rfl (m_within (by omega) (by omega) (by omega) (fun w35 => ?_) (fun w35 => ?_))
                  · dsimp only [jpush]
                    first
                     | (exfalso; omega)
                     | (skip
                        refine e_if_eq 41 54 dX12_gained_38 (by decide) (by decide) rfl (fun h => absurd h (by decide)) (fun _ => ?_)
                        refine e_iload 43 dX12_gained_41 rfl rfl ?_
                        refine e_i2l 44 dX12_gained_43 (by omega) rfl ?_
                        refine e_lconst1 45 dX12_gained_44 rfl ?_
                        refine e_ldc2 (z := (52)) 48 (ix := 219) wd_1515 (by decide) dX12_gained_45 rfl ?_
                        refine e_callS 51 mt_yX12_within ms_yX12_within wd_1390 (by decide) dX12_gained_48 rfl rfl (Nat.le_of_ble_eq_true rfl) (jroom (by decide)) rfl (m_within (by omega) (by omega) (by omega) (fun w48 => ?_) (fun w48 => ?_))
                        · dsimp only [jpush]
                          first
                           | (exfalso; omega)
                           | (skip
                              refine e_if_ne 54 58 dX12_gained_51 (by decide) (by decide) rfl (fun _ => ?_) (fun h => absurd h (by decide))
                              refine e_aload_n (i := 0) 59 dX12_gained_58 rfl rfl rfl ?_
                              refine e_iconst 60 dX12_gained_59 rfl ?_
                              refine e_iload_n (i := 2) 61 dX12_gained_60 rfl rfl rfl ?_
                              refine e_iload 63 dX12_gained_61 rfl rfl ?_
                              refine e_callV 66 mt_yX12_interestBy mv_yX12_interestBy wd_1487 (by decide) dX12_gained_63 at_928 jc_12 rfl rfl rfl (Nat.le_of_ble_eq_true rfl) (jroom (by decide)) rfl (m_interestBy (by decide) (by omega) (by omega) hC.rlaw (fun w63 => ?_) (fun w63 => ?_))
                              · dsimp only [jpush]
                                (try have hcr := rChg_rng (loan := loan) (hv := hv) hC.rlaw (by omega) (by omega))
                                first
                                 | (exfalso; omega)
                                 | (skip
                                    refine e_istore (lsn := [(5, _), (0, _), (1, _), (2, _), (3, _), (4, _)]) 68 dX12_gained_66 (by decide) rfl rfl ?_
                                    refine e_iload 70 dX12_gained_68 rfl rfl ?_
                                    refine e_iconst 71 dX12_gained_70 rfl ?_
                                    refine e_icmp_ne 74 78 dX12_gained_71 (by omega) (by decide) (by decide) rfl (fun b71 => ?_) (fun b71 => ?_)
                                    · first
                                       | (exfalso; omega)
                                       | (skip
                                          refine e_aload_n (i := 0) 79 dX12_gained_78 rfl rfl rfl ?_
                                          refine e_iload_n (i := 1) 80 dX12_gained_79 rfl rfl rfl ?_
                                          refine e_iload_n (i := 2) 81 dX12_gained_80 rfl rfl rfl ?_
                                          refine e_iload 83 dX12_gained_81 rfl rfl ?_
                                          refine e_iload_n (i := 3) 84 dX12_gained_83 rfl rfl rfl ?_
                                          refine e_callV 87 mt_yX12_gainedBy mv_yX12_gainedBy wd_1624 (by decide) dX12_gained_84 at_928 jc_12 rfl rfl rfl (Nat.le_of_ble_eq_true rfl) (jroom (by decide)) rfl (m_gain (hv := hv) hC (by omega) (by omega) (by omega) (by omega) ?_)
                                          dsimp only [jpush]
                                          refine e_ldc2 (z := (10)) 90 (ix := 286) wd_1636 (by decide) dX12_gained_87 rfl ?_
                                          refine e_lmul 91 dX12_gained_90 rfl ?_
                                          refine e_aload_n (i := 0) 92 dX12_gained_91 rfl rfl rfl ?_
                                          refine e_getr (j := 1) 95 fl_12_13 dX12_gained_92 at_928 rfl rfl tp_928_1 rfl ?_
                                          refine e_sipush 98 dX12_gained_95 (by decide) rfl ?_
                                          refine e_iload_n (i := 1) 99 dX12_gained_98 rfl rfl rfl ?_
                                          refine e_iadd 100 dX12_gained_99 rfl ?_
                                          refine e_iald 101 dX12_gained_100 ar_929 (by omega) (by omega) rfl (fun r100 => ?_)
                                          refine e_aload_n (i := 0) 102 dX12_gained_101 rfl rfl rfl ?_
                                          refine e_getr (j := 1) 105 fl_12_13 dX12_gained_102 at_928 rfl rfl tp_928_1 rfl ?_
                                          refine e_sipush 108 dX12_gained_105 (by decide) rfl ?_
                                          refine e_iload_n (i := 1) 109 dX12_gained_108 rfl rfl rfl ?_
                                          refine e_iadd 110 dX12_gained_109 rfl ?_
                                          refine e_iald 111 dX12_gained_110 ar_929 (by omega) (by omega) rfl (fun r110 => ?_)
                                          refine e_isub 112 dX12_gained_111 rfl ?_
                                          refine e_iconst 113 dX12_gained_112 rfl ?_
                                          refine e_iadd 114 dX12_gained_113 rfl ?_
                                          refine e_i2l 115 dX12_gained_114 (by omega) rfl ?_
                                          refine e_ldiv 116 dX12_gained_115 (by omega) (by omega) (by omega) rfl ?_
                                          refine e_lret dX12_gained_116 ?_
                                          first
                                            | (exact ⟨by omega, hI⟩)
                                            | (exfalso; omega)
                                            | (refine ⟨?_, hI⟩
                                               rw [show 1000 * rGain (M 929) k loan back hv = 100 * (rGain (M 929) k loan back hv * 10) by omega]
                                               exact Int.mul_tdiv_mul_of_pos _ _ (by omega)))
                                    · first
                                       | (exfalso; omega)
                                       | (skip
                                          refine e_ldc2 (z := (-5)) 77 (ix := 284) wd_1635 (by decide) dX12_gained_74 rfl ?_
                                          refine e_lret dX12_gained_77 ?_
                                          first
                                            | (exact ⟨by omega, hI⟩)
                                            | (exfalso; omega)
                                            | (refine ⟨?_, hI⟩
                                               rw [show 1000 * rGain (M 929) k loan back hv = 100 * (rGain (M 929) k loan back hv * 10) by omega]
                                               exact Int.mul_tdiv_mul_of_pos _ _ (by omega))))
                              · dsimp only [jpush]
                                (try have hcr := rChg_rng (loan := loan) (hv := hv) hC.rlaw (by omega) (by omega))
                                first
                                 | (exfalso; omega)
                                 | (skip
                                    refine e_istore (lsn := [(5, _), (0, _), (1, _), (2, _), (3, _), (4, _)]) 68 dX12_gained_66 (by decide) rfl rfl ?_
                                    refine e_iload 70 dX12_gained_68 rfl rfl ?_
                                    refine e_iconst 71 dX12_gained_70 rfl ?_
                                    refine e_icmp_ne 74 78 dX12_gained_71 (by decide) (by decide) (by decide) rfl (fun h => absurd h (by decide)) (fun _ => ?_)
                                    refine e_ldc2 (z := (-5)) 77 (ix := 284) wd_1635 (by decide) dX12_gained_74 rfl ?_
                                    refine e_lret dX12_gained_77 ?_
                                    first
                                      | (exact ⟨by omega, hI⟩)
                                      | (exfalso; omega)
                                      | (refine ⟨?_, hI⟩
                                         rw [show 1000 * rGain (M 929) k loan back hv = 100 * (rGain (M 929) k loan back hv * 10) by omega]
                                         exact Int.mul_tdiv_mul_of_pos _ _ (by omega))))
                        · dsimp only [jpush]
                          first
                           | (exfalso; omega)
                           | (skip
                              refine e_if_ne 54 58 dX12_gained_51 (by decide) (by decide) rfl (fun h => absurd h (by decide)) (fun _ => ?_)
                              refine e_ldc2 (z := (-3)) 57 (ix := 282) wd_1634 (by decide) dX12_gained_54 rfl ?_
                              refine e_lret dX12_gained_57 ?_
                              first
                                | (exact ⟨by omega, hI⟩)
                                | (exfalso; omega)
                                | (refine ⟨?_, hI⟩
                                   rw [show 1000 * rGain (M 929) k loan back hv = 100 * (rGain (M 929) k loan back hv * 10) by omega]
                                   exact Int.mul_tdiv_mul_of_pos _ _ (by omega))))
                  · dsimp only [jpush]
                    first
                     | (exfalso; omega)
                     | (skip
                        refine e_if_eq 41 54 dX12_gained_38 (by decide) (by decide) rfl (fun _ => ?_) (fun h => absurd h (by decide))
                        refine e_ldc2 (z := (-3)) 57 (ix := 282) wd_1634 (by decide) dX12_gained_54 rfl ?_
                        refine e_lret dX12_gained_57 ?_
                        first
                          | (exact ⟨by omega, hI⟩)
                          | (exfalso; omega)
                          | (refine ⟨?_, hI⟩
                             rw [show 1000 * rGain (M 929) k loan back hv = 100 * (rGain (M 929) k loan back hv * 10) by omega]
                             exact Int.mul_tdiv_mul_of_pos _ _ (by omega))))
            · dsimp only [jpush]
              first
               | (exfalso; omega)
               | (skip
                  refine e_if_eq 29 54 dX12_gained_26 (by decide) (by decide) rfl (fun _ => ?_) (fun h => absurd h (by decide))
                  refine e_ldc2 (z := (-3)) 57 (ix := 282) wd_1634 (by decide) dX12_gained_54 rfl ?_
                  refine e_lret dX12_gained_57 ?_
                  first
                    | (exact ⟨by omega, hI⟩)
                    | (exfalso; omega)
                    | (refine ⟨?_, hI⟩
                       rw [show 1000 * rGain (M 929) k loan back hv = 100 * (rGain (M 929) k loan back hv * 10) by omega]
                       exact Int.mul_tdiv_mul_of_pos _ _ (by omega))))
      · dsimp only [jpush]
        first
         | (exfalso; omega)
         | (skip
            refine e_if_ne 13 17 dX12_gained_10 (by decide) (by decide) rfl (fun h => absurd h (by decide)) (fun _ => ?_)
            refine e_ldc2 (z := (-2)) 16 (ix := 280) wd_1633 (by decide) dX12_gained_13 rfl ?_
            refine e_lret dX12_gained_16 ?_
            first
              | (exact ⟨by omega, hI⟩)
              | (exfalso; omega)
              | (refine ⟨?_, hI⟩
                 rw [show 1000 * rGain (M 929) k loan back hv = 100 * (rGain (M 929) k loan back hv * 10) by omega]
                 exact Int.mul_tdiv_mul_of_pos _ _ (by omega)))
  · dsimp only [jpush]
    refine e_if_ne 11 15 dX11_gained_8 (by decide) (by decide) rfl (fun h => absurd h (by decide)) (fun _ => ?_)
    refine e_ldc2 (z := (-2)) 14 (ix := 302) wd_932 (by decide) dX11_gained_11 rfl ?_
    refine e_lret dX11_gained_14 ?_
    refine jCt_of mt_yX12_gained (Nat.le_of_ble_eq_true rfl) (fun X2 => ?_)
    refine e_aload_n (i := 0) 1 dX12_gained_0 rfl rfl rfl ?_
    refine e_iconst 2 dX12_gained_1 rfl ?_
    refine e_put0 (j := 0) 5 fl_12_1 dX12_gained_2 at_928 rfl rfl rfl (by decide) hI.1 rfl ?_
    refine e_aload_n (i := 0) 6 dX12_gained_5 rfl rfl rfl ?_
    refine e_iload_n (i := 1) 7 dX12_gained_6 rfl rfl rfl ?_
    refine e_callV 10 mt_yX12_isKind mv_yX12_isKind wd_1619 (by decide) dX12_gained_7 at_928 jc_12 rfl rfl rfl (Nat.le_of_ble_eq_true rfl) (jroom (by decide)) rfl (m_isKind (by omega) (fun w7 => ?_) (fun w7 => ?_))
    · dsimp only [jpush]
      first
       | (exfalso; omega)
       | (skip
          refine e_if_ne 13 17 dX12_gained_10 (by decide) (by decide) rfl (fun _ => ?_) (fun h => absurd h (by decide))
          refine e_iload_n (i := 2) 18 dX12_gained_17 rfl rfl rfl ?_
          refine e_i2l 19 dX12_gained_18 (by omega) rfl ?_
          refine e_lconst1 20 dX12_gained_19 rfl ?_
          refine e_ldc2 (z := (999)) 23 (ix := 198) wd_1482 (by decide) dX12_gained_20 rfl ?_
          refine e_callS 26 mt_yX12_within ms_yX12_within wd_1390 (by decide) dX12_gained_23 rfl rfl (Nat.le_of_ble_eq_true rfl) (jroom (by decide)) rfl (m_within (by omega) (by omega) (by omega) (fun w23 => ?_) (fun w23 => ?_))
          · dsimp only [jpush]
            first
             | (exfalso; omega)
             | (skip
                refine e_if_eq 29 54 dX12_gained_26 (by decide) (by decide) rfl (fun h => absurd h (by decide)) (fun _ => ?_)
                refine e_iload_n (i := 3) 30 dX12_gained_29 rfl rfl rfl ?_
                refine e_i2l 31 dX12_gained_30 (by omega) rfl ?_
                refine e_lconst0 32 dX12_gained_31 rfl ?_
                refine e_ldc2 (z := (100)) 35 (ix := 269) wd_1623 (by decide) dX12_gained_32 rfl ?_
                refine e_callS 38 mt_yX12_within ms_yX12_within wd_1390 (by decide) dX12_gained_35 rfl rfl (Nat.le_of_ble_eq_true rfl) (jroom (by decide)) rfl (m_within (by omega) (by omega) (by omega) (fun w35 => ?_) (fun w35 => ?_))
                · dsimp only [jpush]
                  first
                   | (exfalso; omega)
                   | (skip
                      refine e_if_eq 41 54 dX12_gained_38 (by decide) (by decide) rfl (fun h => absurd h (by decide)) (fun _ => ?_)
                      refine e_iload 43 dX12_gained_41 rfl rfl ?_
                      refine e_i2l 44 dX12_gained_43 (by omega) rfl ?_
                      refine e_lconst1 45 dX12_gained_44 rfl ?_
                      refine e_ldc2 (z := (52)) 48 (ix := 219) wd_1515 (by decide) dX12_gained_45 rfl ?_
                      refine e_callS 51 mt_yX12_within ms_yX12_within wd_1390 (by decide) dX12_gained_48 rfl rfl (Nat.le_of_ble_eq_true rfl) (jroom (by decide)) rfl (m_within (by omega) (by omega) (by omega) (fun w48 => ?_) (fun w48 => ?_))
                      · dsimp only [jpush]
                        first
                         | (exfalso; omega)
                         | (skip
                            refine e_if_ne 54 58 dX12_gained_51 (by decide) (by decide) rfl (fun _ => ?_) (fun h => absurd h (by decide))
                            refine e_aload_n (i := 0) 59 dX12_gained_58 rfl rfl rfl ?_
                            refine e_iconst 60 dX12_gained_59 rfl ?_
                            refine e_iload_n (i := 2) 61 dX12_gained_60 rfl rfl rfl ?_
                            refine e_iload 63 dX12_gained_61 rfl rfl ?_
                            refine e_callV 66 mt_yX12_interestBy mv_yX12_interestBy wd_1487 (by decide) dX12_gained_63 at_928 jc_12 rfl rfl rfl (Nat.le_of_ble_eq_true rfl) (jroom (by decide)) rfl (m_interestBy (by decide) (by omega) (by omega) hC.rlaw (fun w63 => ?_) (fun w63 => ?_))
                            · dsimp only [jpush]
                              (try have hcr := rChg_rng (loan := loan) (hv := hv) hC.rlaw (by omega) (by omega))
                              first
                               | (exfalso; omega)
                               | (skip
                                  refine e_istore (lsn := [(5, _), (0, _), (1, _), (2, _), (3, _), (4, _)]) 68 dX12_gained_66 (by decide) rfl rfl ?_
                                  refine e_iload 70 dX12_gained_68 rfl rfl ?_
                                  refine e_iconst 71 dX12_gained_70 rfl ?_
                                  refine e_icmp_ne 74 78 dX12_gained_71 (by omega) (by decide) (by decide) rfl (fun b71 => ?_) (fun b71 => ?_)
                                  · first
                                     | (exfalso; omega)
                                     | (skip
                                        refine e_aload_n (i := 0) 79 dX12_gained_78 rfl rfl rfl ?_
                                        refine e_iload_n (i := 1) 80 dX12_gained_79 rfl rfl rfl ?_
                                        refine e_iload_n (i := 2) 81 dX12_gained_80 rfl rfl rfl ?_
                                        refine e_iload 83 dX12_gained_81 rfl rfl ?_
                                        refine e_iload_n (i := 3) 84 dX12_gained_83 rfl rfl rfl ?_
                                        refine e_callV 87 mt_yX12_gainedBy mv_yX12_gainedBy wd_1624 (by decide) dX12_gained_84 at_928 jc_12 rfl rfl rfl (Nat.le_of_ble_eq_true rfl) (jroom (by decide)) rfl (m_gain (hv := hv) hC (by omega) (by omega) (by omega) (by omega) ?_)
                                        dsimp only [jpush]
                                        refine e_ldc2 (z := (10)) 90 (ix := 286) wd_1636 (by decide) dX12_gained_87 rfl ?_
                                        refine e_lmul 91 dX12_gained_90 rfl ?_
                                        refine e_aload_n (i := 0) 92 dX12_gained_91 rfl rfl rfl ?_
                                        refine e_getr (j := 1) 95 fl_12_13 dX12_gained_92 at_928 rfl rfl tp_928_1 rfl ?_
                                        refine e_sipush 98 dX12_gained_95 (by decide) rfl ?_
                                        refine e_iload_n (i := 1) 99 dX12_gained_98 rfl rfl rfl ?_
                                        refine e_iadd 100 dX12_gained_99 rfl ?_
                                        refine e_iald 101 dX12_gained_100 ar_929 (by omega) (by omega) rfl (fun r100 => ?_)
                                        refine e_aload_n (i := 0) 102 dX12_gained_101 rfl rfl rfl ?_
                                        refine e_getr (j := 1) 105 fl_12_13 dX12_gained_102 at_928 rfl rfl tp_928_1 rfl ?_
                                        refine e_sipush 108 dX12_gained_105 (by decide) rfl ?_
                                        refine e_iload_n (i := 1) 109 dX12_gained_108 rfl rfl rfl ?_
                                        refine e_iadd 110 dX12_gained_109 rfl ?_
                                        refine e_iald 111 dX12_gained_110 ar_929 (by omega) (by omega) rfl (fun r110 => ?_)
                                        refine e_isub 112 dX12_gained_111 rfl ?_
                                        refine e_iconst 113 dX12_gained_112 rfl ?_
                                        refine e_iadd 114 dX12_gained_113 rfl ?_
                                        refine e_i2l 115 dX12_gained_114 (by omega) rfl ?_
                                        refine e_ldiv 116 dX12_gained_115 (by omega) (by omega) (by omega) rfl ?_
                                        refine e_lret dX12_gained_116 ?_
                                        first
                                          | (exact ⟨by omega, hI⟩)
                                          | (exfalso; omega)
                                          | (refine ⟨?_, hI⟩
                                             rw [show 1000 * rGain (M 929) k loan back hv = 100 * (rGain (M 929) k loan back hv * 10) by omega]
                                             exact Int.mul_tdiv_mul_of_pos _ _ (by omega)))
                                  · first
                                     | (exfalso; omega)
                                     | (skip
                                        refine e_ldc2 (z := (-5)) 77 (ix := 284) wd_1635 (by decide) dX12_gained_74 rfl ?_
                                        refine e_lret dX12_gained_77 ?_
                                        first
                                          | (exact ⟨by omega, hI⟩)
                                          | (exfalso; omega)
                                          | (refine ⟨?_, hI⟩
                                             rw [show 1000 * rGain (M 929) k loan back hv = 100 * (rGain (M 929) k loan back hv * 10) by omega]
                                             exact Int.mul_tdiv_mul_of_pos _ _ (by omega))))
                            · dsimp only [jpush]
                              (try have hcr := rChg_rng (loan := loan) (hv := hv) hC.rlaw (by omega) (by omega))
                              first
                               | (exfalso; omega)
                               | (skip
                                  refine e_istore (lsn := [(5, _), (0, _), (1, _), (2, _), (3, _), (4, _)]) 68 dX12_gained_66 (by decide) rfl rfl ?_
                                  refine e_iload 70 dX12_gained_68 rfl rfl ?_
                                  refine e_iconst 71 dX12_gained_70 rfl ?_
                                  refine e_icmp_ne 74 78 dX12_gained_71 (by decide) (by decide) (by decide) rfl (fun h => absurd h (by decide)) (fun _ => ?_)
                                  refine e_ldc2 (z := (-5)) 77 (ix := 284) wd_1635 (by decide) dX12_gained_74 rfl ?_
                                  refine e_lret dX12_gained_77 ?_
                                  first
                                    | (exact ⟨by omega, hI⟩)
                                    | (exfalso; omega)
                                    | (refine ⟨?_, hI⟩
                                       rw [show 1000 * rGain (M 929) k loan back hv = 100 * (rGain (M 929) k loan back hv * 10) by omega]
                                       exact Int.mul_tdiv_mul_of_pos _ _ (by omega))))
                      · dsimp only [jpush]
                        first
                         | (exfalso; omega)
                         | (skip
                            refine e_if_ne 54 58 dX12_gained_51 (by decide) (by decide) rfl (fun h => absurd h (by decide)) (fun _ => ?_)
                            refine e_ldc2 (z := (-3)) 57 (ix := 282) wd_1634 (by decide) dX12_gained_54 rfl ?_
                            refine e_lret dX12_gained_57 ?_
                            first
                              | (exact ⟨by omega, hI⟩)
                              | (exfalso; omega)
                              | (refine ⟨?_, hI⟩
                                 rw [show 1000 * rGain (M 929) k loan back hv = 100 * (rGain (M 929) k loan back hv * 10) by omega]
                                 exact Int.mul_tdiv_mul_of_pos _ _ (by omega))))
                · dsimp only [jpush]
                  first
                   | (exfalso; omega)
                   | (skip
                      refine e_if_eq 41 54 dX12_gained_38 (by decide) (by decide) rfl (fun _ => ?_) (fun h => absurd h (by decide))
                      refine e_ldc2 (z := (-3)) 57 (ix := 282) wd_1634 (by decide) dX12_gained_54 rfl ?_
                      refine e_lret dX12_gained_57 ?_
                      first
                        | (exact ⟨by omega, hI⟩)
                        | (exfalso; omega)
                        | (refine ⟨?_, hI⟩
                           rw [show 1000 * rGain (M 929) k loan back hv = 100 * (rGain (M 929) k loan back hv * 10) by omega]
                           exact Int.mul_tdiv_mul_of_pos _ _ (by omega))))
          · dsimp only [jpush]
            first
             | (exfalso; omega)
             | (skip
                refine e_if_eq 29 54 dX12_gained_26 (by decide) (by decide) rfl (fun _ => ?_) (fun h => absurd h (by decide))
                refine e_ldc2 (z := (-3)) 57 (ix := 282) wd_1634 (by decide) dX12_gained_54 rfl ?_
                refine e_lret dX12_gained_57 ?_
                first
                  | (exact ⟨by omega, hI⟩)
                  | (exfalso; omega)
                  | (refine ⟨?_, hI⟩
                     rw [show 1000 * rGain (M 929) k loan back hv = 100 * (rGain (M 929) k loan back hv * 10) by omega]
                     exact Int.mul_tdiv_mul_of_pos _ _ (by omega))))
    · dsimp only [jpush]
      first
       | (exfalso; omega)
       | (skip
          refine e_if_ne 13 17 dX12_gained_10 (by decide) (by decide) rfl (fun h => absurd h (by decide)) (fun _ => ?_)
          refine e_ldc2 (z := (-2)) 16 (ix := 280) wd_1633 (by decide) dX12_gained_13 rfl ?_
          refine e_lret dX12_gained_16 ?_
          first
            | (exact ⟨by omega, hI⟩)
            | (exfalso; omega)
            | (refine ⟨?_, hI⟩
               rw [show 1000 * rGain (M 929) k loan back hv = 100 * (rGain (M 929) k loan back hv * 10) by omega]
               exact Int.mul_tdiv_mul_of_pos _ _ (by omega)))

