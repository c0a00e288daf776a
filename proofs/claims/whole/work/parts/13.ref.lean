/-! THE REFERENCE: interest, tickets -/
def fTop (n : Int) (up : Int → Int) : Int := if 0 < n then up (n - 1) else 0
def rTop (a : Int → Int) (o : Int) : Int := fTop (a o) (fun i => a (o + 1 + i))
def rHalf (a : Int → Int) (o loan : Int) : Int := lTake (fun i => a (o + 1 + i)) (fun i => a (o + 9 + i)) (fun i => a (o + 17 + i)) loan (a o).toNat 0
def rChg (a : Int → Int) (o loan hv : Int) : Int := max (a (o + 25)) (hv * rHalf a o loan)
theorem rHalf_rng {a : Int → Int} {o loan : Int} (hO : RLaw a o) (hl : 1 ≤ loan ∧ loan ≤ 999) : 0 ≤ rHalf a o loan ∧ rHalf a o loan ≤ 98901 :=
  lTake_rng hl _ 0 (fun j h0 h1 => by
    have h2 := hO.1
    have h3 := hO.2.1 j h0 (by omega)
    omega)
theorem rChg_rng {a : Int → Int} {o loan hv : Int} (hO : RLaw a o) (hl : 1 ≤ loan ∧ loan ≤ 999) (hh : 0 ≤ hv ∧ hv ≤ 400) : 0 ≤ rChg a o loan hv ∧ rChg a o loan hv ≤ 400 * 98901 := by
  unfold rChg
  have h1 := rHalf_rng hO hl
  have h2 := hO.2.2.2.1
  have h3 : 0 ≤ hv * rHalf a o loan := Int.mul_nonneg (by omega) h1.1
  have h4 : hv * rHalf a o loan ≤ 400 * 98901 := Int.mul_le_mul (by omega) h1.2 h1.1 (by omega)
  omega
theorem rTop_le {a : Int → Int} {o i : Int} (hO : RLaw a o) (h0 : 0 ≤ i) (h1 : i < a o) : a (o + 1 + i) ≤ rTop a o := by
  unfold rTop fTop
  rw [if_pos (by omega)]
  by_cases e : i = a o - 1
  · subst e; exact Int.le_refl _
  · exact Int.le_of_lt (hO.2.2.1 i (a o - 1) h0 (by omega) (by omega))
theorem rTop_rng {a : Int → Int} {o : Int} (hO : RLaw a o) : 0 ≤ rTop a o ∧ rTop a o ≤ 999 := by
  unfold rTop fTop
  have h1 := hO.1
  split
  · have := hO.2.1 (a o - 1) (by omega) (by omega)
    simp only
    omega
  · omega
theorem tdiv_100 {k : Int} (hk : -2147483648 ≤ k ∧ k ≤ 2147483647) : -21474837 ≤ k.tdiv 100 ∧ k.tdiv 100 ≤ 21474837 := by
  rcases Int.le_total 0 k with h | h
  · rw [Int.tdiv_eq_ediv_of_nonneg h]; omega
  · have e : k = -(-k) := by omega
    rw [e, Int.neg_tdiv, Int.tdiv_eq_ediv_of_nonneg (by omega)]; omega
theorem l_interestBy {X : jX} {o loan hv : Int} {M : jM} {Q : Int → jM → Prop} (ho : 0 ≤ o ∧ o ≤ 32) (hl : 1 ≤ loan ∧ loan ≤ 999) (hh : 0 ≤ hv ∧ hv ≤ 400) (hO : RLaw (M 929) o) (h1 : loan ≤ rTop (M 929) o → Q (rChg (M 929) o loan hv) M) (h0 : rTop (M 929) o < loan → Q (-1) M) : ∀ (n : Nat) (i : Int), 0 ≤ i → i ≤ M 929 o → n = (M 929 o - i).toNat → (∀ j, 0 ≤ j → j < i → M 929 (o + 1 + j) < loan) → rHalf (M 929) o loan = lTake (fun i => M 929 (o + 1 + i)) (fun i => M 929 (o + 9 + i)) (fun i => M 929 (o + 17 + i)) loan n i → jE X yX12_interestBy cX12_interestBy 7 (some .int) 1 Q M 3 [(0, jR 928), (1, jI o), (2, jI loan), (3, jI hv), (4, jI i)] [] := by
  intro n
  induction n using Nat.strongRecOn with
  | _ n ih =>
  intro i hi0 hi1 hn hlt hT
  have hO1 := hO.1
  have e0 : M 929 (o + 0) = M 929 o := by rw [Int.add_zero]

  refine e_iload 5 dX12_interestBy_3 rfl rfl ?_
  refine e_aload_n (i := 0) 6 dX12_interestBy_5 rfl rfl rfl ?_
  refine e_getr (j := 1) 9 fl_12_13 dX12_interestBy_6 at_928 rfl rfl tp_928_1 rfl ?_
  refine e_iload_n (i := 1) 10 dX12_interestBy_9 rfl rfl rfl ?_
  refine e_iconst 11 dX12_interestBy_10 rfl ?_
  refine e_iadd 12 dX12_interestBy_11 rfl ?_
  refine e_iald 13 dX12_interestBy_12 ar_929 (by omega) (by omega) rfl (fun r12 => ?_)
  refine e_icmp_ge 16 109 dX12_interestBy_13 (by omega) (by omega) (by decide) rfl (fun b13 => ?_) (fun b13 => ?_)
  · skip
    refine e_iconst 110 dX12_interestBy_109 rfl ?_
    refine e_iret dX12_interestBy_110 ?_
    refine h0 ?_
    unfold rTop fTop
    split
    · exact hlt _ (by omega) (by omega)
    · omega
  · skip
    refine e_aload_n (i := 0) 17 dX12_interestBy_16 rfl rfl rfl ?_
    refine e_getr (j := 1) 20 fl_12_13 dX12_interestBy_17 at_928 rfl rfl tp_928_1 rfl ?_
    refine e_iload_n (i := 1) 21 dX12_interestBy_20 rfl rfl rfl ?_
    refine e_iconst 22 dX12_interestBy_21 rfl ?_
    refine e_iadd 23 dX12_interestBy_22 rfl ?_
    refine e_iload 25 dX12_interestBy_23 rfl rfl ?_
    refine e_iadd 26 dX12_interestBy_25 rfl ?_
    refine e_iald 27 dX12_interestBy_26 ar_929 (by omega) (by omega) rfl (fun r26 => ?_)
    refine e_iload_n (i := 2) 28 dX12_interestBy_27 rfl rfl rfl ?_
    refine e_icmp_ge 31 34 dX12_interestBy_28 (by omega) (by omega) (by decide) rfl (fun b28 => ?_) (fun b28 => ?_)
    · skip
      have hOi := hO.2.1 i hi0 (by omega)
      obtain ⟨k, rfl⟩ : ∃ k, n = k + 1 := ⟨n - 1, by omega⟩
      have hT2 : rHalf (M 929) o loan = M 929 (o + 9 + i) * ((loan + M 929 (o + 17 + i) - 1) / M 929 (o + 17 + i)) := by
        rw [hT, lTake]
        exact if_pos (by show loan ≤ M 929 (o + 1 + i); omega)
      have hv1 : hv * M 929 (o + 9 + i) * (loan + M 929 (o + 17 + i) - 1).tdiv (M 929 (o + 17 + i)) = hv * rHalf (M 929) o loan := by
        rw [hT2, Int.tdiv_eq_ediv_of_nonneg (by omega), Int.mul_assoc]
      have hr1 := rHalf_rng hO hl
      have hr2 : 0 ≤ hv * rHalf (M 929) o loan := Int.mul_nonneg (by omega) hr1.1
      have hr3 : hv * rHalf (M 929) o loan ≤ 400 * 98901 := Int.mul_le_mul (by omega) hr1.2 hr1.1 (by omega)
      refine e_aload_n (i := 0) 35 dX12_interestBy_34 rfl rfl rfl ?_
      refine e_getr (j := 1) 38 fl_12_13 dX12_interestBy_35 at_928 rfl rfl tp_928_1 rfl ?_
      refine e_iload_n (i := 1) 39 dX12_interestBy_38 rfl rfl rfl ?_
      refine e_bipush 41 dX12_interestBy_39 (by decide) rfl ?_
      refine e_iadd 42 dX12_interestBy_41 rfl ?_
      refine e_iload 44 dX12_interestBy_42 rfl rfl ?_
      refine e_iadd 45 dX12_interestBy_44 rfl ?_
      refine e_iald 46 dX12_interestBy_45 ar_929 (by omega) (by omega) rfl (fun r45 => ?_)
      refine e_istore (lsn := [(5, _), (0, _), (1, _), (2, _), (3, _), (4, _)]) 48 dX12_interestBy_46 (by decide) rfl rfl ?_
      refine e_iload_n (i := 3) 49 dX12_interestBy_48 rfl rfl rfl ?_
      refine e_aload_n (i := 0) 50 dX12_interestBy_49 rfl rfl rfl ?_
      refine e_getr (j := 1) 53 fl_12_13 dX12_interestBy_50 at_928 rfl rfl tp_928_1 rfl ?_
      refine e_iload_n (i := 1) 54 dX12_interestBy_53 rfl rfl rfl ?_
      refine e_bipush 56 dX12_interestBy_54 (by decide) rfl ?_
      refine e_iadd 57 dX12_interestBy_56 rfl ?_
      refine e_iload 59 dX12_interestBy_57 rfl rfl ?_
      refine e_iadd 60 dX12_interestBy_59 rfl ?_
      refine e_iald 61 dX12_interestBy_60 ar_929 (by omega) (by omega) rfl (fun r60 => ?_)
      refine e_imul 62 dX12_interestBy_61 rfl ?_
      refine e_iload_n (i := 2) 63 dX12_interestBy_62 rfl rfl rfl ?_
      refine e_iload 65 dX12_interestBy_63 rfl rfl ?_
      refine e_iadd 66 dX12_interestBy_65 rfl ?_
      refine e_iconst 67 dX12_interestBy_66 rfl ?_
      refine e_isub 68 dX12_interestBy_67 rfl ?_
      refine e_iload 70 dX12_interestBy_68 rfl rfl ?_
      refine e_idiv 71 dX12_interestBy_70 (by omega) (by omega) (by omega) rfl ?_
      refine e_imul 72 dX12_interestBy_71 rfl ?_
      refine e_istore (lsn := [(6, _), (5, _), (0, _), (1, _), (2, _), (3, _), (4, _)]) 74 dX12_interestBy_72 (by decide) rfl rfl ?_
      refine e_iload 76 dX12_interestBy_74 rfl rfl ?_
      refine e_aload_n (i := 0) 77 dX12_interestBy_76 rfl rfl rfl ?_
      refine e_getr (j := 1) 80 fl_12_13 dX12_interestBy_77 at_928 rfl rfl tp_928_1 rfl ?_
      refine e_iload_n (i := 1) 81 dX12_interestBy_80 rfl rfl rfl ?_
      refine e_bipush 83 dX12_interestBy_81 (by decide) rfl ?_
      refine e_iadd 84 dX12_interestBy_83 rfl ?_
      refine e_iald 85 dX12_interestBy_84 ar_929 (by omega) (by omega) rfl (fun r84 => ?_)
      refine e_icmp_ge 88 100 dX12_interestBy_85 (by omega) (by omega) (by decide) rfl (fun b85 => ?_) (fun b85 => ?_)
      · skip
        refine e_iload 102 dX12_interestBy_100 rfl rfl ?_
        refine e_iret dX12_interestBy_102 ?_
        have hle := rTop_le hO hi0 (show i < M 929 o by omega)
        have e : hv * M 929 (o + 9 + i) * (loan + M 929 (o + 17 + i) - 1).tdiv (M 929 (o + 17 + i)) = rChg (M 929) o loan hv := by unfold rChg; omega
        rw [e]
        exact h1 (by omega)
      · skip
        refine e_aload_n (i := 0) 89 dX12_interestBy_88 rfl rfl rfl ?_
        refine e_getr (j := 1) 92 fl_12_13 dX12_interestBy_89 at_928 rfl rfl tp_928_1 rfl ?_
        refine e_iload_n (i := 1) 93 dX12_interestBy_92 rfl rfl rfl ?_
        refine e_bipush 95 dX12_interestBy_93 (by decide) rfl ?_
        refine e_iadd 96 dX12_interestBy_95 rfl ?_
        refine e_iald 97 dX12_interestBy_96 ar_929 (by omega) (by omega) rfl (fun r96 => ?_)
        refine e_goto 102 dX12_interestBy_97 (by decide) ?_
        refine e_iret dX12_interestBy_102 ?_
        have hle := rTop_le hO hi0 (show i < M 929 o by omega)
        have e : M 929 (o + 25) = rChg (M 929) o loan hv := by unfold rChg; omega
        rw [e]
        exact h1 (by omega)
    · skip
      refine e_goto 103 dX12_interestBy_31 (by decide) ?_
      refine e_iinc (lsn := [(4, _), (0, _), (1, _), (2, _), (3, _)]) 106 dX12_interestBy_103 rfl (by decide) rfl rfl ?_
      refine e_goto 3 dX12_interestBy_106 (by decide) ?_
      refine e_ls (ls2 := [(0, _), (1, _), (2, _), (3, _), (4, _)]) rfl ?_
      refine ih (n - 1) (by omega) (i + 1) (by omega) (by omega) (by omega) (fun j hj0 hj1 => ?_) ?_
      · by_cases e : j = i
        · rw [e]; omega
        · exact hlt j hj0 (by omega)
      · rw [hT]
        obtain ⟨k, rfl⟩ : ∃ k, n = k + 1 := ⟨n - 1, by omega⟩
        rw [lTake]
        exact if_neg (by show ¬ loan ≤ M 929 (o + 1 + i); omega)

theorem m_interestBy {o loan hv : Int} {M : jM} {Q : Int → jM → Prop} (ho : 0 ≤ o ∧ o ≤ 32) (hl : 1 ≤ loan ∧ loan ≤ 999) (hh : 0 ≤ hv ∧ hv ≤ 400) (hO : RLaw (M 929) o) (h1 : loan ≤ rTop (M 929) o → Q (rChg (M 929) o loan hv) M) (h0 : rTop (M 929) o < loan → Q (-1) M) : jCt yX12_interestBy cX12_interestBy 7 (some .int) 1 [jR 928, jI o, jI loan, jI hv] M Q := by
  refine jCt_of mt_yX12_interestBy (Nat.le_of_ble_eq_true rfl) (fun X => ?_)
  refine e_iconst 1 dX12_interestBy_0 rfl ?_
  refine e_istore (lsn := [(4, _), (0, _), (1, _), (2, _), (3, _)]) 3 dX12_interestBy_1 (by decide) rfl rfl ?_
  refine e_ls (ls2 := [(0, _), (1, _), (2, _), (3, _), (4, _)]) rfl ?_
  exact l_interestBy ho hl hh hO h1 h0 _ 0 (by omega) hO.1.1 (by rw [Int.sub_zero]) (fun j hj0 hj1 => by omega) rfl

theorem m_halvesOf {v : Int} {M : jM} {Q : Int → jM → Prop} (hv : 0 ≤ v ∧ v ≤ 1000000) (h : Q (1 + v / 2) M) : jCt yX12_halvesOf cX12_halvesOf 1 (some .int) 1 [jI v] M Q := by
  refine jCt_of mt_yX12_halvesOf (Nat.le_of_ble_eq_true rfl) (fun X => ?_)
  refine e_iconst 1 dX12_halvesOf_0 rfl ?_
  refine e_iload_n (i := 0) 2 dX12_halvesOf_1 rfl rfl rfl ?_
  refine e_iconst 3 dX12_halvesOf_2 rfl ?_
  refine e_idiv 4 dX12_halvesOf_3 (by omega) (by decide) (by decide) rfl ?_
  refine e_iadd 5 dX12_halvesOf_4 rfl ?_
  refine e_iret dX12_halvesOf_5 ?_
  rw [Int.tdiv_eq_ediv_of_nonneg (by omega)] 
  exact h

/-- what a pledge costs of interest now, by the row -/
def rI (a : Int → Int) (p : Int) : Int := if a (830 + p) ≤ rTop a 0 then rChg a 0 (a (830 + p)) (1 + (a 708 - a (890 + p)) / 2) else a 25
def rOkP (a : Int → Int) (p : Int) : Prop := RLaw a 0 ∧ (0 ≤ p ∧ p < 60) ∧ (1 ≤ a (830 + p) ∧ a (830 + p) ≤ 999) ∧ (0 ≤ a (890 + p) ∧ a (890 + p) ≤ a 708 ∧ a 708 ≤ 300)
theorem rI_rng {a : Int → Int} {p : Int} (h : rOkP a p) : 0 ≤ rI a p ∧ rI a p ≤ 400 * 98901 := by
  obtain ⟨hO, hp, hl, hw⟩ := h
  unfold rI
  split
  · exact rChg_rng hO hl (by omega)
  · have := hO.2.2.2.1
    have e : a (0 + 25) = a 25 := by rw [Int.zero_add]
    omega
theorem RInv.okP {a : Int → Int} (h : RInv a) {p : Int} (h0 : 0 ≤ p) (h1 : p < a 709) : rOkP a p := by
  obtain ⟨hc, hl, -, -, -, hp, -⟩ := h
  have h2 := hp p h0 h1
  have h3 := hc.2.2.1
  have h4 := hc.2.2.2.2.2.2.1
  exact ⟨hl, ⟨h0, by omega⟩, h2.2.2.1, h2.2.2.2.1.1, h2.2.2.2.1.2, h4.2⟩
theorem m_interestOf {p : Int} {M : jM} {Q : Int → jM → Prop} (hP : rOkP (M 929) p) (h : Q (rI (M 929) p) M) : jCt yX12_interestOf cX12_interestOf 3 (some .int) 2 [jR 928, jI p] M Q := by
  refine jCt_of mt_yX12_interestOf (Nat.le_of_ble_eq_true rfl) (fun X => ?_)
  obtain ⟨hO, hp, hl, hw⟩ := hP
  refine e_aload_n (i := 0) 1 dX12_interestOf_0 rfl rfl rfl ?_
  refine e_iconst 2 dX12_interestOf_1 rfl ?_
  refine e_aload_n (i := 0) 3 dX12_interestOf_2 rfl rfl rfl ?_
  refine e_getr (j := 1) 6 fl_12_13 dX12_interestOf_3 at_928 rfl rfl tp_928_1 rfl ?_
  refine e_sipush 9 dX12_interestOf_6 (by decide) rfl ?_
  refine e_iload_n (i := 1) 10 dX12_interestOf_9 rfl rfl rfl ?_
  refine e_iadd 11 dX12_interestOf_10 rfl ?_
  refine e_iald 12 dX12_interestOf_11 ar_929 (by omega) (by omega) rfl (fun r11 => ?_)
  refine e_aload_n (i := 0) 13 dX12_interestOf_12 rfl rfl rfl ?_
  refine e_getr (j := 1) 16 fl_12_13 dX12_interestOf_13 at_928 rfl rfl tp_928_1 rfl ?_
  refine e_sipush 19 dX12_interestOf_16 (by decide) rfl ?_
  refine e_iald 20 dX12_interestOf_19 ar_929 (by decide) (by decide) rfl (fun r19 => ?_)
  refine e_aload_n (i := 0) 21 dX12_interestOf_20 rfl rfl rfl ?_
  refine e_getr (j := 1) 24 fl_12_13 dX12_interestOf_21 at_928 rfl rfl tp_928_1 rfl ?_
  refine e_sipush 27 dX12_interestOf_24 (by decide) rfl ?_
  refine e_iload_n (i := 1) 28 dX12_interestOf_27 rfl rfl rfl ?_
  refine e_iadd 29 dX12_interestOf_28 rfl ?_
  refine e_iald 30 dX12_interestOf_29 ar_929 (by omega) (by omega) rfl (fun r29 => ?_)
  refine e_isub 31 dX12_interestOf_30 rfl ?_
  refine e_callS 34 mt_yX12_halvesOf ms_yX12_halvesOf wd_1484 (by decide) dX12_interestOf_31 rfl rfl (Nat.le_of_ble_eq_true rfl) (jroom (by decide)) rfl (m_halvesOf (by omega) ?_)
  dsimp only [jpush]
  refine e_callV 37 mt_yX12_interestBy mv_yX12_interestBy wd_1487 (by decide) dX12_interestOf_34 at_928 jc_12 rfl rfl rfl (Nat.le_of_ble_eq_true rfl) (jroom (by decide)) rfl (m_interestBy (by decide) (by omega) (by omega) hO (fun w34 => ?_) (fun w34 => ?_))
  · dsimp only [jpush]
    have hr := rChg_rng (hv := 1 + (M 929 708 - M 929 (890 + p)) / 2) hO hl (by omega)
    refine e_istore_n (i := 2) (lsn := [(2, _), (0, _), (1, _)]) 38 dX12_interestOf_37 rfl (by decide) rfl rfl ?_
    refine e_iload_n (i := 2) 39 dX12_interestOf_38 rfl rfl rfl ?_
    refine e_iconst 40 dX12_interestOf_39 rfl ?_
    refine e_icmp_ne 43 53 dX12_interestOf_40 (by omega) (by decide) (by decide) rfl (fun b40 => ?_) (fun b40 => ?_)
    · skip
      refine e_iload_n (i := 2) 54 dX12_interestOf_53 rfl rfl rfl ?_
      refine e_iret dX12_interestOf_54 ?_
      rw [show rI (M 929) p = _ from if_pos w34] at h
      exact h
    · skip
      refine e_aload_n (i := 0) 44 dX12_interestOf_43 rfl rfl rfl ?_
      refine e_getr (j := 1) 47 fl_12_13 dX12_interestOf_44 at_928 rfl rfl tp_928_1 rfl ?_
      refine e_bipush 49 dX12_interestOf_47 (by decide) rfl ?_
      refine e_iald 50 dX12_interestOf_49 ar_929 (by decide) (by decide) rfl (fun r49 => ?_)
      refine e_goto 54 dX12_interestOf_50 (by decide) ?_
      refine e_iret dX12_interestOf_54 ?_
      omega
  · dsimp only [jpush]
    have hr := rChg_rng (hv := 1 + (M 929 708 - M 929 (890 + p)) / 2) hO hl (by omega)
    refine e_istore_n (i := 2) (lsn := [(2, _), (0, _), (1, _)]) 38 dX12_interestOf_37 rfl (by decide) rfl rfl ?_
    refine e_iload_n (i := 2) 39 dX12_interestOf_38 rfl rfl rfl ?_
    refine e_iconst 40 dX12_interestOf_39 rfl ?_
    refine e_icmp_ne 43 53 dX12_interestOf_40 (by decide) (by decide) (by decide) rfl (fun h => absurd h (by decide)) (fun _ => ?_)
    refine e_aload_n (i := 0) 44 dX12_interestOf_43 rfl rfl rfl ?_
    refine e_getr (j := 1) 47 fl_12_13 dX12_interestOf_44 at_928 rfl rfl tp_928_1 rfl ?_
    refine e_bipush 49 dX12_interestOf_47 (by decide) rfl ?_
    refine e_iald 50 dX12_interestOf_49 ar_929 (by decide) (by decide) rfl (fun r49 => ?_)
    refine e_goto 54 dX12_interestOf_50 (by decide) ?_
    refine e_iret dX12_interestOf_54 ?_
    rw [show rI (M 929) p = M 929 25 from if_neg (by omega)] at h
    exact h

theorem m_dueOf {p : Int} {M : jM} {Q : Int → jM → Prop} (hP : rOkP (M 929) p) (h : Q (2 * M 929 (830 + p) + rI (M 929) p) M) : jCt yX12_dueOf cX12_dueOf 2 (some .int) 3 [jR 928, jI p] M Q := by
  refine jCt_of mt_yX12_dueOf (Nat.le_of_ble_eq_true rfl) (fun X => ?_)
  obtain ⟨hO, hp, hl, hw⟩ := id hP
  refine e_iconst 1 dX12_dueOf_0 rfl ?_
  refine e_aload_n (i := 0) 2 dX12_dueOf_1 rfl rfl rfl ?_
  refine e_getr (j := 1) 5 fl_12_13 dX12_dueOf_2 at_928 rfl rfl tp_928_1 rfl ?_
  refine e_sipush 8 dX12_dueOf_5 (by decide) rfl ?_
  refine e_iload_n (i := 1) 9 dX12_dueOf_8 rfl rfl rfl ?_
  refine e_iadd 10 dX12_dueOf_9 rfl ?_
  refine e_iald 11 dX12_dueOf_10 ar_929 (by omega) (by omega) rfl (fun r10 => ?_)
  refine e_imul 12 dX12_dueOf_11 rfl ?_
  refine e_aload_n (i := 0) 13 dX12_dueOf_12 rfl rfl rfl ?_
  refine e_iload_n (i := 1) 14 dX12_dueOf_13 rfl rfl rfl ?_
  refine e_callV 17 mt_yX12_interestOf mv_yX12_interestOf wd_1551 (by decide) dX12_dueOf_14 at_928 jc_12 rfl rfl rfl (Nat.le_of_ble_eq_true rfl) (jroom (by decide)) rfl (m_interestOf hP ?_)
  dsimp only [jpush]
  refine e_iadd 18 dX12_dueOf_17 rfl ?_
  refine e_iret dX12_dueOf_18 ?_
  exact h

def tkNum (s : Int) : Int := 100 * s + (31 * s + 17) % 97
/-- a number of a ticket that there was, of so many -/
def tkGood (n k : Int) : Prop := 100 ≤ k ∧ k % 100 = (31 * (k / 100) + 17) % 97 ∧ k / 100 ≤ n
def tkBad (k : Int) : Prop := k < 100 ∨ k % 100 ≠ (31 * (k / 100) + 17) % 97
theorem m_numberOf {k : Int} {M : jM} {Q : Int → jM → Prop} (hk : 0 ≤ k ∧ k ≤ 1000) (h : Q (tkNum k) M) : jCt yX12_numberOf cX12_numberOf 1 (some .int) 1 [jI k] M Q := by
  refine jCt_of mt_yX12_numberOf (Nat.le_of_ble_eq_true rfl) (fun X => ?_)
  refine e_bipush 2 dX12_numberOf_0 (by decide) rfl ?_
  refine e_iload_n (i := 0) 3 dX12_numberOf_2 rfl rfl rfl ?_
  refine e_imul 4 dX12_numberOf_3 rfl ?_
  refine e_bipush 6 dX12_numberOf_4 (by decide) rfl ?_
  refine e_iload_n (i := 0) 7 dX12_numberOf_6 rfl rfl rfl ?_
  refine e_imul 8 dX12_numberOf_7 rfl ?_
  refine e_bipush 10 dX12_numberOf_8 (by decide) rfl ?_
  refine e_iadd 11 dX12_numberOf_10 rfl ?_
  refine e_bipush 13 dX12_numberOf_11 (by decide) rfl ?_
  refine e_irem 14 dX12_numberOf_13 (by omega) (by decide) (by decide) rfl ?_
  refine e_iadd 15 dX12_numberOf_14 rfl ?_
  refine e_iret dX12_numberOf_15 ?_
  rw [Int.tmod_eq_emod_of_nonneg (by omega)]
  exact h

theorem m_stateOf {k : Int} {M : jM} {Q : Int → jM → Prop} (hk : -2147483648 ≤ k ∧ k ≤ 2147483647) (hn : 0 ≤ M 929 1310 ∧ M 929 1310 ≤ 150) (hl : ∀ t, 0 ≤ t → t < M 929 1310 → 0 ≤ M 929 (1611 + t) ∧ M 929 (1611 + t) ≤ 1) (h2 : tkBad k → Q 2 M) (h3 : ¬ tkBad k ∧ M 929 1310 < k / 100 → Q 3 M) (h1 : tkGood (M 929 1310) k ∧ M 929 (1611 + (k / 100 - 1)) = 0 → Q 1 M) (h0 : tkGood (M 929 1310) k ∧ M 929 (1611 + (k / 100 - 1)) = 1 → Q 0 M) : jCt yX12_stateOf cX12_stateOf 3 (some .int) 1 [jR 928, jI k] M Q := by
  refine jCt_of mt_yX12_stateOf (Nat.le_of_ble_eq_true rfl) (fun X => ?_)
  have ed0 := Int.tdiv_eq_ediv_of_nonneg (a := k) (b := 100)
  have hd1 : -21474837 ≤ k.tdiv 100 ∧ k.tdiv 100 ≤ 21474837 := tdiv_100 hk
  refine e_iload_n (i := 1) 1 dX12_stateOf_0 rfl rfl rfl ?_
  refine e_bipush 3 dX12_stateOf_1 (by decide) rfl ?_
  refine e_idiv 4 dX12_stateOf_3 (by omega) (by decide) (by decide) rfl ?_
  refine e_istore_n (i := 2) (lsn := [(2, _), (0, _), (1, _)]) 5 dX12_stateOf_4 rfl (by decide) rfl rfl ?_
  refine e_iload_n (i := 1) 6 dX12_stateOf_5 rfl rfl rfl ?_
  refine e_bipush 8 dX12_stateOf_6 (by decide) rfl ?_
  refine e_icmp_lt 11 34 dX12_stateOf_8 (by omega) (by decide) (by decide) rfl (fun b8 => ?_) (fun b8 => ?_)
  · skip
    refine e_iconst 35 dX12_stateOf_34 rfl ?_
    refine e_iret dX12_stateOf_35 ?_
    exact h2 (Or.inl b8)
  · skip
    have ed : k.tdiv 100 = k / 100 := Int.tdiv_eq_ediv_of_nonneg (by omega)
    have em : k.tmod 100 = k % 100 := Int.tmod_eq_emod_of_nonneg (by omega)
    have e9 : (31 * k.tdiv 100 + 17).tmod 97 = (31 * k.tdiv 100 + 17) % 97 := Int.tmod_eq_emod_of_nonneg (by omega)
    refine e_iload_n (i := 1) 12 dX12_stateOf_11 rfl rfl rfl ?_
    refine e_bipush 14 dX12_stateOf_12 (by decide) rfl ?_
    refine e_irem 15 dX12_stateOf_14 (by omega) (by decide) (by decide) rfl ?_
    refine e_i2l 16 dX12_stateOf_15 (by omega) rfl ?_
    refine e_ldc2 (z := (31)) 19 (ix := 231) wd_1539 (by decide) dX12_stateOf_16 rfl ?_
    refine e_iload_n (i := 2) 20 dX12_stateOf_19 rfl rfl rfl ?_
    refine e_i2l 21 dX12_stateOf_20 (by omega) rfl ?_
    refine e_lmul 22 dX12_stateOf_21 rfl ?_
    refine e_ldc2 (z := (17)) 25 (ix := 233) wd_1540 (by decide) dX12_stateOf_22 rfl ?_
    refine e_ladd 26 dX12_stateOf_25 rfl ?_
    refine e_ldc2 (z := (97)) 29 (ix := 235) wd_1541 (by decide) dX12_stateOf_26 rfl ?_
    refine e_lrem 30 dX12_stateOf_29 (by omega) (by decide) (by decide) rfl ?_
    refine e_lcmp 31 dX12_stateOf_30 (by omega) (by omega) rfl (fun b30 => ?_) (fun b30 => ?_) (fun b30 => ?_)
    · skip
      refine e_if_eq 34 36 dX12_stateOf_31 (by decide) (by decide) rfl (fun h => absurd h (by decide)) (fun _ => ?_)
      refine e_iconst 35 dX12_stateOf_34 rfl ?_
      refine e_iret dX12_stateOf_35 ?_
      exact h2 (Or.inr (by omega))
    · skip
      refine e_if_eq 34 36 dX12_stateOf_31 (by decide) (by decide) rfl (fun _ => ?_) (fun h => absurd h (by decide))
      refine e_iload_n (i := 2) 37 dX12_stateOf_36 rfl rfl rfl ?_
      refine e_aload_n (i := 0) 38 dX12_stateOf_37 rfl rfl rfl ?_
      refine e_getr (j := 1) 41 fl_12_13 dX12_stateOf_38 at_928 rfl rfl tp_928_1 rfl ?_
      refine e_sipush 44 dX12_stateOf_41 (by decide) rfl ?_
      refine e_iald 45 dX12_stateOf_44 ar_929 (by decide) (by decide) rfl (fun r44 => ?_)
      refine e_icmp_le 48 50 dX12_stateOf_45 (by omega) (by omega) (by decide) rfl (fun b45 => ?_) (fun b45 => ?_)
      · skip
        refine e_iconst 51 dX12_stateOf_50 rfl ?_
        refine e_aload_n (i := 0) 52 dX12_stateOf_51 rfl rfl rfl ?_
        refine e_getr (j := 1) 55 fl_12_13 dX12_stateOf_52 at_928 rfl rfl tp_928_1 rfl ?_
        refine e_sipush 58 dX12_stateOf_55 (by decide) rfl ?_
        refine e_iload_n (i := 2) 59 dX12_stateOf_58 rfl rfl rfl ?_
        refine e_iadd 60 dX12_stateOf_59 rfl ?_
        refine e_iconst 61 dX12_stateOf_60 rfl ?_
        refine e_isub 62 dX12_stateOf_61 rfl ?_
        refine e_iald 63 dX12_stateOf_62 ar_929 (by omega) (by omega) rfl (fun r62 => ?_)
        refine e_isub 64 dX12_stateOf_63 rfl ?_
        refine e_iret dX12_stateOf_64 ?_
        have e : 1611 + k.tdiv 100 - 1 = 1611 + (k / 100 - 1) := by omega
        rw [e]
        have hh := hl (k / 100 - 1) (by omega) (by omega)
        have hg : tkGood (M 929 1310) k := ⟨b8, by omega, by omega⟩
        rcases (by omega : M 929 (1611 + (k / 100 - 1)) = 0 ∨ M 929 (1611 + (k / 100 - 1)) = 1) with q | q
        · have h4 := h1 ⟨hg, q⟩
          rw [q]
          exact h4
        · have h4 := h0 ⟨hg, q⟩
          rw [q]
          exact h4
      · skip
        refine e_iconst 49 dX12_stateOf_48 rfl ?_
        refine e_iret dX12_stateOf_49 ?_
        exact h3 ⟨fun q => by unfold tkBad at q; omega, by omega⟩
    · skip
      refine e_if_eq 34 36 dX12_stateOf_31 (by decide) (by decide) rfl (fun h => absurd h (by decide)) (fun _ => ?_)
      refine e_iconst 35 dX12_stateOf_34 rfl ?_
      refine e_iret dX12_stateOf_35 ?_
      exact h2 (Or.inr (by omega))

theorem m_isHeld {p : Int} {M : jM} {Q : Int → jM → Prop} (hp : 0 ≤ p ∧ p < 60) (h1 : M 929 708 < M 929 (1070 + p) → Q 1 M) (h0 : M 929 (1070 + p) ≤ M 929 708 → Q 0 M) : jCt yX12_isHeld cX12_isHeld 2 (some .boolean) 1 [jR 928, jI p] M Q := by
  refine jCt_of mt_yX12_isHeld (Nat.le_of_ble_eq_true rfl) (fun X => ?_)
  refine e_aload_n (i := 0) 1 dX12_isHeld_0 rfl rfl rfl ?_
  refine e_getr (j := 1) 4 fl_12_13 dX12_isHeld_1 at_928 rfl rfl tp_928_1 rfl ?_
  refine e_sipush 7 dX12_isHeld_4 (by decide) rfl ?_
  refine e_iald 8 dX12_isHeld_7 ar_929 (by decide) (by decide) rfl (fun r7 => ?_)
  refine e_aload_n (i := 0) 9 dX12_isHeld_8 rfl rfl rfl ?_
  refine e_getr (j := 1) 12 fl_12_13 dX12_isHeld_9 at_928 rfl rfl tp_928_1 rfl ?_
  refine e_sipush 15 dX12_isHeld_12 (by decide) rfl ?_
  refine e_iload_n (i := 1) 16 dX12_isHeld_15 rfl rfl rfl ?_
  refine e_iadd 17 dX12_isHeld_16 rfl ?_
  refine e_iald 18 dX12_isHeld_17 ar_929 (by omega) (by omega) rfl (fun r17 => ?_)
  refine e_icmp_ge 21 25 dX12_isHeld_18 (by omega) (by omega) (by decide) rfl (fun b18 => ?_) (fun b18 => ?_)
  · skip
    refine e_iconst 26 dX12_isHeld_25 rfl ?_
    refine e_zret dX12_isHeld_26 (by decide) ?_
    first | exact h1 (by omega) | exact h0 (by omega)
  · skip
    refine e_iconst 22 dX12_isHeld_21 rfl ?_
    refine e_goto 26 dX12_isHeld_22 (by decide) ?_
    refine e_zret dX12_isHeld_26 (by decide) ?_
    first | exact h1 (by omega) | exact h0 (by omega)

theorem m_isPassed {p : Int} {M : jM} {Q : Int → jM → Prop} (hp : 0 ≤ p ∧ p < 60) (hw : 0 ≤ M 929 (890 + p) ∧ M 929 (890 + p) ≤ M 929 708 ∧ M 929 708 ≤ 300) (h1 : M 929 (1010 + p) = 0 ∧ M 929 28 ≤ M 929 708 - M 929 (890 + p) → Q 1 M) (h0 : ¬ (M 929 (1010 + p) = 0 ∧ M 929 28 ≤ M 929 708 - M 929 (890 + p)) → Q 0 M) : jCt yX12_isPassed cX12_isPassed 2 (some .boolean) 1 [jR 928, jI p] M Q := by
  refine jCt_of mt_yX12_isPassed (Nat.le_of_ble_eq_true rfl) (fun X => ?_)
  refine e_aload_n (i := 0) 1 dX12_isPassed_0 rfl rfl rfl ?_
  refine e_getr (j := 1) 4 fl_12_13 dX12_isPassed_1 at_928 rfl rfl tp_928_1 rfl ?_
  refine e_sipush 7 dX12_isPassed_4 (by decide) rfl ?_
  refine e_iload_n (i := 1) 8 dX12_isPassed_7 rfl rfl rfl ?_
  refine e_iadd 9 dX12_isPassed_8 rfl ?_
  refine e_iald 10 dX12_isPassed_9 ar_929 (by omega) (by omega) rfl (fun r9 => ?_)
  refine e_if_ne 13 46 dX12_isPassed_10 (by omega) (by decide) rfl (fun b10 => ?_) (fun b10 => ?_)
  · skip
    refine e_iconst 47 dX12_isPassed_46 rfl ?_
    refine e_zret dX12_isPassed_47 (by decide) ?_
    first | exact h1 (by omega) | exact h0 (by omega)
  · skip
    refine e_aload_n (i := 0) 14 dX12_isPassed_13 rfl rfl rfl ?_
    refine e_getr (j := 1) 17 fl_12_13 dX12_isPassed_14 at_928 rfl rfl tp_928_1 rfl ?_
    refine e_sipush 20 dX12_isPassed_17 (by decide) rfl ?_
    refine e_iald 21 dX12_isPassed_20 ar_929 (by decide) (by decide) rfl (fun r20 => ?_)
    refine e_aload_n (i := 0) 22 dX12_isPassed_21 rfl rfl rfl ?_
    refine e_getr (j := 1) 25 fl_12_13 dX12_isPassed_22 at_928 rfl rfl tp_928_1 rfl ?_
    refine e_sipush 28 dX12_isPassed_25 (by decide) rfl ?_
    refine e_iload_n (i := 1) 29 dX12_isPassed_28 rfl rfl rfl ?_
    refine e_iadd 30 dX12_isPassed_29 rfl ?_
    refine e_iald 31 dX12_isPassed_30 ar_929 (by omega) (by omega) rfl (fun r30 => ?_)
    refine e_isub 32 dX12_isPassed_31 rfl ?_
    refine e_aload_n (i := 0) 33 dX12_isPassed_32 rfl rfl rfl ?_
    refine e_getr (j := 1) 36 fl_12_13 dX12_isPassed_33 at_928 rfl rfl tp_928_1 rfl ?_
    refine e_bipush 38 dX12_isPassed_36 (by decide) rfl ?_
    refine e_iald 39 dX12_isPassed_38 ar_929 (by decide) (by decide) rfl (fun r38 => ?_)
    refine e_icmp_lt 42 46 dX12_isPassed_39 (by omega) (by omega) (by decide) rfl (fun b39 => ?_) (fun b39 => ?_)
    · skip
      refine e_iconst 47 dX12_isPassed_46 rfl ?_
      refine e_zret dX12_isPassed_47 (by decide) ?_
      first | exact h1 (by omega) | exact h0 (by omega)
    · skip
      refine e_iconst 43 dX12_isPassed_42 rfl ?_
      refine e_goto 47 dX12_isPassed_43 (by decide) ?_
      refine e_zret dX12_isPassed_47 (by decide) ?_
      first | exact h1 (by omega) | exact h0 (by omega)

theorem m_sizeOf {p : Int} {M : jM} {Q : Int → jM → Prop} (hp : 0 ≤ p ∧ p < 60) (hk : 0 ≤ M 929 (710 + p) ∧ M 929 (710 + p) < 12) (h : Q (M 929 (583 + M 929 (710 + p))) M) : jCt yX12_sizeOf cX12_sizeOf 2 (some .int) 1 [jR 928, jI p] M Q := by
  refine jCt_of mt_yX12_sizeOf (Nat.le_of_ble_eq_true rfl) (fun X => ?_)
  refine e_aload_n (i := 0) 1 dX12_sizeOf_0 rfl rfl rfl ?_
  refine e_getr (j := 1) 4 fl_12_13 dX12_sizeOf_1 at_928 rfl rfl tp_928_1 rfl ?_
  refine e_sipush 7 dX12_sizeOf_4 (by decide) rfl ?_
  refine e_aload_n (i := 0) 8 dX12_sizeOf_7 rfl rfl rfl ?_
  refine e_getr (j := 1) 11 fl_12_13 dX12_sizeOf_8 at_928 rfl rfl tp_928_1 rfl ?_
  refine e_sipush 14 dX12_sizeOf_11 (by decide) rfl ?_
  refine e_iload_n (i := 1) 15 dX12_sizeOf_14 rfl rfl rfl ?_
  refine e_iadd 16 dX12_sizeOf_15 rfl ?_
  refine e_iald 17 dX12_sizeOf_16 ar_929 (by omega) (by omega) rfl (fun r16 => ?_)
  refine e_iadd 18 dX12_sizeOf_17 rfl ?_
  refine e_iald 19 dX12_sizeOf_18 ar_929 (by omega) (by omega) rfl (fun r18 => ?_)
  refine e_iret dX12_sizeOf_19 ?_
  exact h

def rMoth (a : Int → Int) (p v : Int) : Int := if a (631 + a (710 + p)) = 0 then v else v * (if 100 - a 29 * ((a 708 - a (890 + p)) / 10) < 0 then 0 else 100 - a 29 * ((a 708 - a (890 + p)) / 10)) / 100
def rOkM (a : Int → Int) (p : Int) : Prop := (0 ≤ p ∧ p < 60) ∧ (0 ≤ a (710 + p) ∧ a (710 + p) < 12) ∧ (0 ≤ a (890 + p) ∧ a (890 + p) ≤ a 708 ∧ a 708 ≤ 300) ∧ (0 ≤ a 29 ∧ a 29 ≤ 20)
theorem moth_rng {m d : Int} (hm : 0 ≤ m ∧ m ≤ 20) (hd : 0 ≤ d ∧ d ≤ 30) : 0 ≤ m * d ∧ m * d ≤ 600 := ⟨Int.mul_nonneg hm.1 hd.1, Int.mul_le_mul hm.2 hd.2 hd.1 (by omega)⟩
theorem m_mothed {p v : Int} {M : jM} {Q : Int → jM → Prop} (hP : rOkM (M 929) p) (hv : 0 ≤ v ∧ v ≤ 999) (h : Q (rMoth (M 929) p v) M) : jCt yX12_mothed cX12_mothed 4 (some .int) 1 [jR 928, jI p, jI v] M Q := by
  refine jCt_of mt_yX12_mothed (Nat.le_of_ble_eq_true rfl) (fun X => ?_)
  obtain ⟨hp, hk, hw, hm⟩ := hP
  have hd : (M 929 708 - M 929 (890 + p)).tdiv 10 = (M 929 708 - M 929 (890 + p)) / 10 := Int.tdiv_eq_ediv_of_nonneg (by omega)
  have hr := moth_rng (m := M 929 29) (d := (M 929 708 - M 929 (890 + p)) / 10) hm (by omega)
  unfold rMoth at h
  refine e_aload_n (i := 0) 1 dX12_mothed_0 rfl rfl rfl ?_
  refine e_getr (j := 1) 4 fl_12_13 dX12_mothed_1 at_928 rfl rfl tp_928_1 rfl ?_
  refine e_sipush 7 dX12_mothed_4 (by decide) rfl ?_
  refine e_aload_n (i := 0) 8 dX12_mothed_7 rfl rfl rfl ?_
  refine e_getr (j := 1) 11 fl_12_13 dX12_mothed_8 at_928 rfl rfl tp_928_1 rfl ?_
  refine e_sipush 14 dX12_mothed_11 (by decide) rfl ?_
  refine e_iload_n (i := 1) 15 dX12_mothed_14 rfl rfl rfl ?_
  refine e_iadd 16 dX12_mothed_15 rfl ?_
  refine e_iald 17 dX12_mothed_16 ar_929 (by omega) (by omega) rfl (fun r16 => ?_)
  refine e_iadd 18 dX12_mothed_17 rfl ?_
  refine e_iald 19 dX12_mothed_18 ar_929 (by omega) (by omega) rfl (fun r18 => ?_)
  refine e_if_ne 22 24 dX12_mothed_19 (by omega) (by decide) rfl (fun b19 => ?_) (fun b19 => ?_)
  · skip
    refine e_bipush 26 dX12_mothed_24 (by decide) rfl ?_
    refine e_aload_n (i := 0) 27 dX12_mothed_26 rfl rfl rfl ?_
    refine e_getr (j := 1) 30 fl_12_13 dX12_mothed_27 at_928 rfl rfl tp_928_1 rfl ?_
    refine e_bipush 32 dX12_mothed_30 (by decide) rfl ?_
    refine e_iald 33 dX12_mothed_32 ar_929 (by decide) (by decide) rfl (fun r32 => ?_)
    refine e_aload_n (i := 0) 34 dX12_mothed_33 rfl rfl rfl ?_
    refine e_getr (j := 1) 37 fl_12_13 dX12_mothed_34 at_928 rfl rfl tp_928_1 rfl ?_
    refine e_sipush 40 dX12_mothed_37 (by decide) rfl ?_
    refine e_iald 41 dX12_mothed_40 ar_929 (by decide) (by decide) rfl (fun r40 => ?_)
    refine e_aload_n (i := 0) 42 dX12_mothed_41 rfl rfl rfl ?_
    refine e_getr (j := 1) 45 fl_12_13 dX12_mothed_42 at_928 rfl rfl tp_928_1 rfl ?_
    refine e_sipush 48 dX12_mothed_45 (by decide) rfl ?_
    refine e_iload_n (i := 1) 49 dX12_mothed_48 rfl rfl rfl ?_
    refine e_iadd 50 dX12_mothed_49 rfl ?_
    refine e_iald 51 dX12_mothed_50 ar_929 (by omega) (by omega) rfl (fun r50 => ?_)
    refine e_isub 52 dX12_mothed_51 rfl ?_
    refine e_bipush 54 dX12_mothed_52 (by decide) rfl ?_
    refine e_idiv 55 dX12_mothed_54 (by omega) (by decide) (by decide) rfl ?_
    rw [hd]
    refine e_imul 56 dX12_mothed_55 rfl ?_
    refine e_isub 57 dX12_mothed_56 rfl ?_
    refine e_istore_n (i := 3) (lsn := [(3, _), (0, _), (1, _), (2, _)]) 58 dX12_mothed_57 rfl (by decide) rfl rfl ?_
    refine e_iload_n (i := 2) 59 dX12_mothed_58 rfl rfl rfl ?_
    refine e_iload_n (i := 3) 60 dX12_mothed_59 rfl rfl rfl ?_
    refine e_if_ge 63 67 dX12_mothed_60 (by omega) (by decide) rfl (fun b60 => ?_) (fun b60 => ?_)
    · skip
      have hv2 : 0 ≤ v * (100 - M 929 29 * ((M 929 708 - M 929 (890 + p)) / 10)) := Int.mul_nonneg hv.1 (by omega)
      have hv3 : v * (100 - M 929 29 * ((M 929 708 - M 929 (890 + p)) / 10)) ≤ 999 * 100 := Int.mul_le_mul hv.2 (by omega) (by omega) (by omega)
      refine e_iload_n (i := 3) 68 dX12_mothed_67 rfl rfl rfl ?_
      refine e_imul 69 dX12_mothed_68 rfl ?_
      refine e_bipush 71 dX12_mothed_69 (by decide) rfl ?_
      refine e_idiv 72 dX12_mothed_71 (by omega) (by decide) (by decide) rfl ?_
      refine e_iret dX12_mothed_72 ?_
      rw [if_neg (by omega), if_neg (by omega)] at h
      rw [Int.tdiv_eq_ediv_of_nonneg hv2]
      exact h
    · skip
      refine e_iconst 64 dX12_mothed_63 rfl ?_
      refine e_goto 68 dX12_mothed_64 (by decide) ?_
      refine e_imul 69 dX12_mothed_68 rfl ?_
      refine e_bipush 71 dX12_mothed_69 (by decide) rfl ?_
      refine e_idiv 72 dX12_mothed_71 (by omega) (by decide) (by decide) rfl ?_
      refine e_iret dX12_mothed_72 ?_
      rw [if_neg (by omega), if_pos (by omega)] at h
      rw [Int.tdiv_eq_ediv_of_nonneg (by omega)]
      exact h
  · skip
    refine e_iload_n (i := 2) 23 dX12_mothed_22 rfl rfl rfl ?_
    refine e_iret dX12_mothed_23 ?_
    rw [if_pos (by omega)] at h
    exact h

theorem m_mothedLow {p : Int} {M : jM} {Q : Int → jM → Prop} (hP : rOkM (M 929) p) (hv : 0 ≤ M 929 (595 + M 929 (710 + p)) ∧ M 929 (595 + M 929 (710 + p)) ≤ 999) (h : Q (rMoth (M 929) p (M 929 (595 + M 929 (710 + p)))) M) : jCt yX12_mothedLow cX12_mothedLow 2 (some .int) 2 [jR 928, jI p] M Q := by
  refine jCt_of mt_yX12_mothedLow (Nat.le_of_ble_eq_true rfl) (fun X => ?_)
  obtain ⟨hp, hk, hw, hm⟩ := id hP
  refine e_aload_n (i := 0) 1 dX12_mothedLow_0 rfl rfl rfl ?_
  refine e_iload_n (i := 1) 2 dX12_mothedLow_1 rfl rfl rfl ?_
  refine e_aload_n (i := 0) 3 dX12_mothedLow_2 rfl rfl rfl ?_
  refine e_getr (j := 1) 6 fl_12_13 dX12_mothedLow_3 at_928 rfl rfl tp_928_1 rfl ?_
  refine e_sipush 9 dX12_mothedLow_6 (by decide) rfl ?_
  refine e_aload_n (i := 0) 10 dX12_mothedLow_9 rfl rfl rfl ?_
  refine e_getr (j := 1) 13 fl_12_13 dX12_mothedLow_10 at_928 rfl rfl tp_928_1 rfl ?_
  refine e_sipush 16 dX12_mothedLow_13 (by decide) rfl ?_
  refine e_iload_n (i := 1) 17 dX12_mothedLow_16 rfl rfl rfl ?_
  refine e_iadd 18 dX12_mothedLow_17 rfl ?_
  refine e_iald 19 dX12_mothedLow_18 ar_929 (by omega) (by omega) rfl (fun r18 => ?_)
  refine e_iadd 20 dX12_mothedLow_19 rfl ?_
  refine e_iald 21 dX12_mothedLow_20 ar_929 (by omega) (by omega) rfl (fun r20 => ?_)
  refine e_callV 24 mt_yX12_mothed mv_yX12_mothed wd_1595 (by decide) dX12_mothedLow_21 at_928 jc_12 rfl rfl rfl (Nat.le_of_ble_eq_true rfl) (jroom (by decide)) rfl (m_mothed hP (by omega) ?_)
  dsimp only [jpush]
  refine e_iret dX12_mothedLow_24 ?_
  exact h

/-- the room left on a rack, by the pledges ahead of n -/
def rLeft (a : Int → Int) (r : Int) : Nat → Int
  | 0 => a (1762 + r)
  | n + 1 => rLeft a r n - (if a (950 + n) = r then a (583 + a (710 + n)) else 0)
theorem rLeft_rng {a : Int → Int} (h : RInv a) {r : Int} (h0 : 0 ≤ r) (h1 : r < a 1761) : ∀ n : Nat, (n : Int) ≤ a 709 → 1 - 9 * n ≤ rLeft a r n ∧ rLeft a r n ≤ 99
  | 0, _ => by
    have := h.2.2.2.2.2.2.2.2.1 r h0 h1
    unfold rLeft
    omega
  | n + 1, hn => by
    have ih := rLeft_rng h h0 h1 n (by omega)
    have hp := h.2.2.2.2.2.1 n (by omega) (by omega)
    have hk := h.2.2.2.1 (a (710 + n)) hp.1.1 hp.1.2
    unfold rLeft
    split <;> omega
theorem l_leftOn {X : jX} {r : Int} {M : jM} {Q : Int → jM → Prop} (hI : RInv (M 929)) (hr : 0 ≤ r ∧ r < M 929 1761) (h : Q (rLeft (M 929) r (M 929 709).toNat) M) : ∀ (n i : Nat), (i : Int) + n = M 929 709 → ∀ (ii v : Int), ii = i → v = rLeft (M 929) r i → jE X yX12_leftOn cX12_leftOn 4 (some .int) 2 Q M 13 [(0, jR 928), (1, jI r), (2, jI v), (3, jI ii)] [] := by
  intro n
  induction n with
  | zero =>
    intro i hi ii v hii hv
    have hc := hI.1
    have h3 := hc.2.2.1
    have h5 := hc.2.2.2.2.1
    have hlr := rLeft_rng hI hr.1 hr.2 i (by omega)
    have e : (M 929 709).toNat = i := by omega
    rw [e] at h
    subst hv
    refine e_iload_n (i := 3) 14 dX12_leftOn_13 rfl rfl rfl ?_
    refine e_aload_n (i := 0) 15 dX12_leftOn_14 rfl rfl rfl ?_
    refine e_getr (j := 1) 18 fl_12_13 dX12_leftOn_15 at_928 rfl rfl tp_928_1 rfl ?_
    refine e_sipush 21 dX12_leftOn_18 (by decide) rfl ?_
    refine e_iald 22 dX12_leftOn_21 ar_929 (by decide) (by decide) rfl (fun r21 => ?_)
    refine e_icmp_ge 25 57 dX12_leftOn_22 (by omega) (by omega) (by decide) rfl (fun b22 => ?_) (fun b22 => ?_)
    · skip
      refine e_iload_n (i := 2) 58 dX12_leftOn_57 rfl rfl rfl ?_
      refine e_iret dX12_leftOn_58 ?_
      exact h
    · omega
  | succ n ih =>
    intro i hi ii v hii hv
    have hc := hI.1
    have h3 := hc.2.2.1
    have h5 := hc.2.2.2.2.1
    have hlr := rLeft_rng hI hr.1 hr.2 i (by omega)
    subst hii
    have hp := hI.2.2.2.2.2.1 i (by omega) (by omega)
    have hk := hI.2.2.2.1 (M 929 (710 + i)) hp.1.1 hp.1.2
    have h1 := hc.1
    refine e_iload_n (i := 3) 14 dX12_leftOn_13 rfl rfl rfl ?_
    refine e_aload_n (i := 0) 15 dX12_leftOn_14 rfl rfl rfl ?_
    refine e_getr (j := 1) 18 fl_12_13 dX12_leftOn_15 at_928 rfl rfl tp_928_1 rfl ?_
    refine e_sipush 21 dX12_leftOn_18 (by decide) rfl ?_
    refine e_iald 22 dX12_leftOn_21 ar_929 (by decide) (by decide) rfl (fun r21 => ?_)
    refine e_icmp_ge 25 57 dX12_leftOn_22 (by omega) (by omega) (by decide) rfl (fun b22 => ?_) (fun b22 => ?_)
    · omega
    · skip
      refine e_iload_n (i := 2) 26 dX12_leftOn_25 rfl rfl rfl ?_
      refine e_aload_n (i := 0) 27 dX12_leftOn_26 rfl rfl rfl ?_
      refine e_getr (j := 1) 30 fl_12_13 dX12_leftOn_27 at_928 rfl rfl tp_928_1 rfl ?_
      refine e_sipush 33 dX12_leftOn_30 (by decide) rfl ?_
      refine e_iload_n (i := 3) 34 dX12_leftOn_33 rfl rfl rfl ?_
      refine e_iadd 35 dX12_leftOn_34 rfl ?_
      refine e_iald 36 dX12_leftOn_35 ar_929 (by omega) (by omega) rfl (fun r35 => ?_)
      refine e_iload_n (i := 1) 37 dX12_leftOn_36 rfl rfl rfl ?_
      refine e_icmp_ne 40 48 dX12_leftOn_37 (by omega) (by omega) (by decide) rfl (fun b37 => ?_) (fun b37 => ?_)
      · skip
        refine e_iconst 49 dX12_leftOn_48 rfl ?_
        refine e_isub 50 dX12_leftOn_49 rfl ?_
        refine e_istore_n (i := 2) (lsn := [(2, _), (0, _), (1, _), (3, _)]) 51 dX12_leftOn_50 rfl (by decide) rfl rfl ?_
        refine e_iinc (lsn := [(3, _), (2, _), (0, _), (1, _)]) 54 dX12_leftOn_51 rfl (by decide) rfl rfl ?_
        refine e_goto 13 dX12_leftOn_54 (by decide) ?_
        refine e_ls (ls2 := [(0, _), (1, _), (2, _), (3, _)]) rfl ?_
        refine ih (i + 1) (by omega) _ _ (by omega) ?_
        rw [hv, rLeft, if_neg (by omega)]
      · skip
        refine e_aload_n (i := 0) 41 dX12_leftOn_40 rfl rfl rfl ?_
        refine e_iload_n (i := 3) 42 dX12_leftOn_41 rfl rfl rfl ?_
        refine e_callV 45 mt_yX12_sizeOf mv_yX12_sizeOf wd_1649 (by decide) dX12_leftOn_42 at_928 jc_12 rfl rfl rfl (Nat.le_of_ble_eq_true rfl) (jroom (by decide)) rfl (m_sizeOf (by omega) (by omega) ?_)
        dsimp only [jpush]
        refine e_goto 49 dX12_leftOn_45 (by decide) ?_
        refine e_isub 50 dX12_leftOn_49 rfl ?_
        refine e_istore_n (i := 2) (lsn := [(2, _), (0, _), (1, _), (3, _)]) 51 dX12_leftOn_50 rfl (by decide) rfl rfl ?_
        refine e_iinc (lsn := [(3, _), (2, _), (0, _), (1, _)]) 54 dX12_leftOn_51 rfl (by decide) rfl rfl ?_
        refine e_goto 13 dX12_leftOn_54 (by decide) ?_
        refine e_ls (ls2 := [(0, _), (1, _), (2, _), (3, _)]) rfl ?_
        refine ih (i + 1) (by omega) _ _ (by omega) ?_
        rw [hv, rLeft, if_pos (by omega)]

theorem m_leftOn {r : Int} {M : jM} {Q : Int → jM → Prop} (hI : RInv (M 929)) (hr : 0 ≤ r ∧ r < M 929 1761) (h : Q (rLeft (M 929) r (M 929 709).toNat) M) : jCt yX12_leftOn cX12_leftOn 4 (some .int) 2 [jR 928, jI r] M Q := by
  refine jCt_of mt_yX12_leftOn (Nat.le_of_ble_eq_true rfl) (fun X => ?_)
  have h3 := hI.1.2.2.1
  have h5 := hI.1.2.2.2.2.1
  refine e_aload_n (i := 0) 1 dX12_leftOn_0 rfl rfl rfl ?_
  refine e_getr (j := 1) 4 fl_12_13 dX12_leftOn_1 at_928 rfl rfl tp_928_1 rfl ?_
  refine e_sipush 7 dX12_leftOn_4 (by decide) rfl ?_
  refine e_iload_n (i := 1) 8 dX12_leftOn_7 rfl rfl rfl ?_
  refine e_iadd 9 dX12_leftOn_8 rfl ?_
  refine e_iald 10 dX12_leftOn_9 ar_929 (by omega) (by omega) rfl (fun r9 => ?_)
  refine e_istore_n (i := 2) (lsn := [(2, _), (0, _), (1, _)]) 11 dX12_leftOn_10 rfl (by decide) rfl rfl ?_
  refine e_iconst 12 dX12_leftOn_11 rfl ?_
  refine e_istore_n (i := 3) (lsn := [(3, _), (2, _), (0, _), (1, _)]) 13 dX12_leftOn_12 rfl (by decide) rfl rfl ?_
  refine e_ls (ls2 := [(0, _), (1, _), (2, _), (3, _)]) rfl ?_
  exact l_leftOn hI hr h (M 929 709).toNat 0 (by omega) _ _ rfl rfl

