/-! PAIRS: street, shilling -/
abbrev rSinks (a : Int → Int) (wk more p : Int) : Prop := 0 < a (3759 + p) ∧ a (3759 + p) ≤ rTop a 0 ∧ rLifeOf a p (a (3759 + p)) wk more ≠ -1
def rBits (f : Int → Bool) : Nat → Int
  | 0 => 0
  | n + 1 => if f n then jor (rBits f n) (jshl 1 n) else rBits f n
theorem jor_rng (a b : Int) : -2147483648 ≤ jor a b ∧ jor a b ≤ 2147483647 := by
  unfold jor
  have h1 := (Int32.ofInt a ||| Int32.ofInt b).toInt_lt
  have h2 := (Int32.ofInt a ||| Int32.ofInt b).le_toInt
  omega
theorem rBits_rng (f : Int → Bool) : ∀ n : Nat, -2147483648 ≤ rBits f n ∧ rBits f n ≤ 2147483647
  | 0 => by
    unfold rBits
    omega
  | n + 1 => by
    have ih := rBits_rng f n
    unfold rBits
    split
    · exact jor_rng _ _
    · exact ih
theorem jor_0 {a : Int} (h : -2147483648 ≤ a ∧ a ≤ 2147483647) : jor a 0 = a := by
  have e : Int32.ofInt a ||| Int32.ofInt 0 = Int32.ofInt a := by
    apply Int32.toBitVec_inj.mp
    rw [Int32.toBitVec_or]
    exact BitVec.or_zero
  unfold jor
  rw [e, to_of32, w32_id h]
theorem jshl_bv : ∀ n : Fin 32, (Int32.ofInt (jshl 1 (n.val : Int))).toBitVec = BitVec.twoPow 32 n.val := by decide +kernel
theorem rBits_bv (f : Int → Bool) : ∀ n : Nat, n ≤ 31 → ∀ i : Nat, (Int32.ofInt (rBits f n)).toBitVec.getLsbD i = (decide (i < n) && f i)
  | 0, _, i => by
    have e : (Int32.ofInt 0).toBitVec = 0#32 := by decide +kernel
    show (Int32.ofInt 0).toBitVec.getLsbD i = _
    rw [e]
    simp
  | n + 1, hn, i => by
    have ih := rBits_bv f n (by omega) i
    have hs := jshl_bv ⟨n, by omega⟩
    simp only at hs
    unfold rBits
    by_cases e : f n = true
    · rw [if_pos e]
      unfold jor
      rw [of_to32, Int32.toBitVec_or, BitVec.getLsbD_or, ih, hs, BitVec.getLsbD_twoPow]
      by_cases q : n = i
      · subst q
        simp [e]
        omega
      · by_cases q2 : i < n
        · simp [q, q2, show i < n + 1 by omega]
        · simp [q, q2, show ¬ i < n + 1 by omega]
    · rw [if_neg e, ih]
      by_cases q : n = i
      · subst q
        simp [e]
      · by_cases q2 : i < n
        · simp [q2, show i < n + 1 by omega]
        · simp [q2, show ¬ i < n + 1 by omega]
theorem bv_minus1 : (Int32.ofInt (-1)).toBitVec = BitVec.allOnes 32 := by decide +kernel
theorem rBits_but (f g : Int → Bool) {n : Nat} (hn : n ≤ 31) : jand (rBits f n) (jxor (rBits g n) (-1)) = rBits (fun p => f p && !g p) n := by
  have e : Int32.ofInt (rBits f n) &&& Int32.ofInt (jxor (rBits g n) (-1)) = Int32.ofInt (rBits (fun p => f p && !g p) n) := by
    apply Int32.toBitVec_inj.mp
    unfold jxor
    rw [of_to32, Int32.toBitVec_and, Int32.toBitVec_xor, bv_minus1]
    apply BitVec.eq_of_getLsbD_eq
    intro i hi
    rw [BitVec.getLsbD_and, BitVec.getLsbD_xor, rBits_bv f n hn, rBits_bv g n hn, rBits_bv _ n hn, BitVec.getLsbD_allOnes]
    by_cases q : i < n
    · simp [q, hi]
    · simp [q]
  unfold jand
  rw [e, to_of32, w32_id (rBits_rng _ _)]
theorem l_sinkingP {X : jX} {wk more : Int} {M : jM} {Q : Int → jM → Prop} (hC : CR M) (hwk : 0 ≤ wk ∧ wk ≤ 104) (hm : 0 ≤ more ∧ more ≤ 999) (h : Q (rBits (fun p => decide (rSinks (M 929) wk more p)) (M 929 643).toNat) M) : ∀ (n i : Nat), (i : Int) + n = M 929 643 → ∀ (ii s : Int), ii = i → s = rBits (fun p => decide (rSinks (M 929) wk more p)) i → jE X yX8_sinkingPeople cX8_sinkingPeople 6 (some .int) 3 Q M 5 [(0, jR 1), (1, jI wk), (2, jI more), (3, jI s), (4, jI ii)] [] := by
  intro n
  induction n with
  | zero =>
    intro i hi ii s hii hs
    have hn := hC.cnt
    have hg := hC.rng
    have hto := hC.lrel.top
    have hbr := rBits_rng (fun p => decide (rSinks (M 929) wk more p)) i
    have e : (M 929 643).toNat = i := by omega
    rw [e, ← hs] at h
    refine e_iload 7 dX8_sinkingPeople_5 rfl rfl ?_
    refine e_aload_n (i := 0) 8 dX8_sinkingPeople_7 rfl rfl rfl ?_
    refine e_geti (j := 8) 11 fl_8_105 dX8_sinkingPeople_8 at_1 (by decide) rfl rfl (fun r8 => ?_)
    refine e_icmp_ge 14 70 dX8_sinkingPeople_11 (by omega) (by omega) (by decide) rfl (fun b11 => ?_) (fun b11 => ?_)
    · skip
      refine e_iload_n (i := 3) 71 dX8_sinkingPeople_70 rfl rfl rfl ?_
      refine e_iret dX8_sinkingPeople_71 ?_
      exact h
    · omega
  | succ n ih =>
    intro i hi ii s hii hs
    have hn := hC.cnt
    have hg := hC.rng
    have hto := hC.lrel.top
    have hbr := rBits_rng (fun p => decide (rSinks (M 929) wk more p)) i
    have hp := hC.pers (p := ii) (by omega) (by omega)
    have hlr := rLifeOf_rng (a := M 929) (q := ii) (loan := M 929 (3759 + ii)) (wk := wk) (more := more) hwk
    refine e_iload 7 dX8_sinkingPeople_5 rfl rfl ?_
    refine e_aload_n (i := 0) 8 dX8_sinkingPeople_7 rfl rfl rfl ?_
    refine e_geti (j := 8) 11 fl_8_105 dX8_sinkingPeople_8 at_1 (by decide) rfl rfl (fun r8 => ?_)
    refine e_icmp_ge 14 70 dX8_sinkingPeople_11 (by omega) (by omega) (by decide) rfl (fun b11 => ?_) (fun b11 => ?_)
    · omega
    · skip
      refine e_aload_n (i := 0) 15 dX8_sinkingPeople_14 rfl rfl rfl ?_
      refine e_getr (j := 7) 18 fl_8_36 dX8_sinkingPeople_15 at_1 rfl rfl tp_1_7 rfl ?_
      refine e_iload 20 dX8_sinkingPeople_18 rfl rfl ?_
      refine e_aald 21 dX8_sinkingPeople_20 ar_17 (by decide) (by omega) (by omega) (tp_person (by omega) (by omega)) rfl ?_
      refine e_geti (j := 4) 24 fl_8_261 dX8_sinkingPeople_21 (at_person (by omega) (by omega)) (by decide) rfl rfl (fun r21 => ?_)
      rw [hp.1.2.2.2.2]
      refine e_istore (lsn := [(5, _), (0, _), (1, _), (2, _), (3, _), (4, _)]) 26 dX8_sinkingPeople_24 (by decide) rfl rfl ?_
      refine e_iload 28 dX8_sinkingPeople_26 rfl rfl ?_
      refine e_if_le 31 64 dX8_sinkingPeople_28 (by omega) (by decide) rfl (fun b28 => ?_) (fun b28 => ?_)
      · skip
        refine e_iinc (lsn := [(4, _), (5, _), (0, _), (1, _), (2, _), (3, _)]) 67 dX8_sinkingPeople_64 rfl (by decide) rfl rfl ?_
        refine e_goto 5 dX8_sinkingPeople_67 (by decide) ?_
        refine e_ls (ls2 := [(0, _), (1, _), (2, _), (3, _), (4, _)]) rfl ?_
        refine ih (i + 1) (by omega) _ _ (by omega) ?_
        rw [rBits, if_neg (by rw [decide_eq_true_iff, ← hii]; unfold rSinks; omega), hs]
      · skip
        refine e_aload_n (i := 0) 32 dX8_sinkingPeople_31 rfl rfl rfl ?_
        refine e_getr (j := 0) 35 fl_8_12 dX8_sinkingPeople_32 at_1 rfl rfl tp_1_0 rfl ?_
        refine e_iload 37 dX8_sinkingPeople_35 rfl rfl ?_
        refine e_callV 40 mt_yX1_lends mv_yX1_lends wd_784 (by decide) dX8_sinkingPeople_37 at_2 jc_1 rfl rfl rfl (Nat.le_of_ble_eq_true rfl) (jroom (by decide)) rfl (c_lends (by omega) lw_2 hC.lrel.ok (fun w37 => ?_) (fun w37 => ?_))
        · dsimp only [jpush]
          refine e_if_eq 43 64 dX8_sinkingPeople_40 (by decide) (by decide) rfl (fun h => absurd h (by decide)) (fun _ => ?_)
          refine e_aload_n (i := 0) 44 dX8_sinkingPeople_43 rfl rfl rfl ?_
          refine e_iload 46 dX8_sinkingPeople_44 rfl rfl ?_
          refine e_iload 48 dX8_sinkingPeople_46 rfl rfl ?_
          refine e_iload_n (i := 1) 49 dX8_sinkingPeople_48 rfl rfl rfl ?_
          refine e_iload_n (i := 2) 50 dX8_sinkingPeople_49 rfl rfl rfl ?_
          refine e_callV 53 mt_yX8_sinkingWeek mv_yX8_sinkingWeek wd_1144 (by decide) dX8_sinkingPeople_50 at_1 jc_8 rfl rfl rfl (Nat.le_of_ble_eq_true rfl) (jroom (by decide)) rfl (c_sinking hC (by omega) (by omega) (by omega) (by omega) ?_)
          dsimp only [jpush]
          refine e_iconst 54 dX8_sinkingPeople_53 rfl ?_
          refine e_icmp_eq 57 64 dX8_sinkingPeople_54 (by omega) (by decide) (by decide) rfl (fun b54 => ?_) (fun b54 => ?_)
          · skip
            refine e_iinc (lsn := [(4, _), (5, _), (0, _), (1, _), (2, _), (3, _)]) 67 dX8_sinkingPeople_64 rfl (by decide) rfl rfl ?_
            refine e_goto 5 dX8_sinkingPeople_67 (by decide) ?_
            refine e_ls (ls2 := [(0, _), (1, _), (2, _), (3, _), (4, _)]) rfl ?_
            refine ih (i + 1) (by omega) _ _ (by omega) ?_
            rw [rBits, if_neg (by rw [decide_eq_true_iff, ← hii]; unfold rSinks; omega), hs]
          · skip
            refine e_iload_n (i := 3) 58 dX8_sinkingPeople_57 rfl rfl rfl ?_
            refine e_iconst 59 dX8_sinkingPeople_58 rfl ?_
            refine e_iload 61 dX8_sinkingPeople_59 rfl rfl ?_
            refine e_ishl 62 dX8_sinkingPeople_61 rfl ?_
            refine e_ior 63 dX8_sinkingPeople_62 rfl ?_
            refine e_istore_n (i := 3) (lsn := [(3, _), (5, _), (0, _), (1, _), (2, _), (4, _)]) 64 dX8_sinkingPeople_63 rfl (by decide) rfl rfl ?_
            refine e_iinc (lsn := [(4, _), (3, _), (5, _), (0, _), (1, _), (2, _)]) 67 dX8_sinkingPeople_64 rfl (by decide) rfl rfl ?_
            refine e_goto 5 dX8_sinkingPeople_67 (by decide) ?_
            refine e_ls (ls2 := [(0, _), (1, _), (2, _), (3, _), (4, _)]) rfl ?_
            refine ih (i + 1) (by omega) _ _ (by omega) ?_
            rw [rBits, if_pos (by rw [decide_eq_true_iff, ← hii]; unfold rSinks; omega), hs, hii]
        · dsimp only [jpush]
          refine e_if_eq 43 64 dX8_sinkingPeople_40 (by decide) (by decide) rfl (fun _ => ?_) (fun h => absurd h (by decide))
          refine e_iinc (lsn := [(4, _), (5, _), (0, _), (1, _), (2, _), (3, _)]) 67 dX8_sinkingPeople_64 rfl (by decide) rfl rfl ?_
          refine e_goto 5 dX8_sinkingPeople_67 (by decide) ?_
          refine e_ls (ls2 := [(0, _), (1, _), (2, _), (3, _), (4, _)]) rfl ?_
          refine ih (i + 1) (by omega) _ _ (by omega) ?_
          rw [rBits, if_neg (by rw [decide_eq_true_iff, ← hii]; unfold rSinks; omega), hs]

theorem c_sinkingP {wk more : Int} {M : jM} {Q : Int → jM → Prop} (hC : CR M) (hwk : 0 ≤ wk ∧ wk ≤ 104) (hm : 0 ≤ more ∧ more ≤ 999) (h : Q (rBits (fun p => decide (rSinks (M 929) wk more p)) (M 929 643).toNat) M) : jCt yX8_sinkingPeople cX8_sinkingPeople 6 (some .int) 3 [jR 1, jI wk, jI more] M Q := by
  refine jCt_of mt_yX8_sinkingPeople (Nat.le_of_ble_eq_true rfl) (fun X => ?_)
  have hg := hC.rng
  refine e_iconst 1 dX8_sinkingPeople_0 rfl ?_
  refine e_istore_n (i := 3) (lsn := [(3, _), (0, _), (1, _), (2, _)]) 2 dX8_sinkingPeople_1 rfl (by decide) rfl rfl ?_
  refine e_iconst 3 dX8_sinkingPeople_2 rfl ?_
  refine e_istore (lsn := [(4, _), (3, _), (0, _), (1, _), (2, _)]) 5 dX8_sinkingPeople_3 (by decide) rfl rfl ?_
  refine e_ls (ls2 := [(0, _), (1, _), (2, _), (3, _), (4, _)]) rfl ?_
  exact l_sinkingP hC hwk hm h (M 929 643).toNat 0 (by omega) _ _ rfl rfl

theorem m_sinks {q wk more : Int} {M : jM} {Q : Int → jM → Prop} (hC : CR M) (hq : 0 ≤ q ∧ q < M 929 643) (hwk : 0 ≤ wk ∧ wk ≤ 104) (hm : 0 ≤ more ∧ more ≤ 999) (h1 : rSinks (M 929) wk more q → Q 1 M) (h0 : ¬ rSinks (M 929) wk more q → Q 0 M) : jCt yX12_sinks cX12_sinks 5 (some .boolean) 3 [jR 928, jI q, jI wk, jI more] M Q := by
  refine jCt_of mt_yX12_sinks (Nat.le_of_ble_eq_true rfl) (fun X => ?_)
  have hg := hC.rng
  have hp := hC.pers hq.1 hq.2
  have hto := rTop_rng hC.rlaw
  have hlr := rLifeOf_rng (a := M 929) (q := q) (loan := M 929 (3759 + q)) (wk := wk) (more := more) hwk
  refine e_aload_n (i := 0) 1 dX12_sinks_0 rfl rfl rfl ?_
  refine e_getr (j := 1) 4 fl_12_13 dX12_sinks_1 at_928 rfl rfl tp_928_1 rfl ?_
  refine e_sipush 7 dX12_sinks_4 (by decide) rfl ?_
  refine e_iload_n (i := 1) 8 dX12_sinks_7 rfl rfl rfl ?_
  refine e_iadd 9 dX12_sinks_8 rfl ?_
  refine e_iald 10 dX12_sinks_9 ar_929 (by omega) (by omega) rfl (fun r9 => ?_)
  refine e_istore (lsn := [(4, _), (0, _), (1, _), (2, _), (3, _)]) 12 dX12_sinks_10 (by decide) rfl rfl ?_
  refine e_iload 14 dX12_sinks_12 rfl rfl ?_
  refine e_if_le 17 46 dX12_sinks_14 (by omega) (by decide) rfl (fun b14 => ?_) (fun b14 => ?_)
  · skip
    refine e_iconst 47 dX12_sinks_46 rfl ?_
    refine e_zret dX12_sinks_47 (by decide) ?_
    first | exact h1 (by unfold rSinks; omega) | exact h0 (by unfold rSinks; omega) | (exfalso; omega)
  · skip
    refine e_aload_n (i := 0) 18 dX12_sinks_17 rfl rfl rfl ?_
    refine e_iconst 19 dX12_sinks_18 rfl ?_
    refine e_iload 21 dX12_sinks_19 rfl rfl ?_
    refine e_iconst 22 dX12_sinks_21 rfl ?_
    refine e_callV 25 mt_yX12_interestBy mv_yX12_interestBy wd_1487 (by decide) dX12_sinks_22 at_928 jc_12 rfl rfl rfl (Nat.le_of_ble_eq_true rfl) (jroom (by decide)) rfl (m_interestBy (by decide) (by omega) (by omega) hC.rlaw (fun w22 => ?_) (fun w22 => ?_))
    · dsimp only [jpush]
      (try have hcr := rChg_rng (loan := M 929 (3759 + q)) (hv := 1) hC.rlaw (by omega) (by omega))
      refine e_iconst 26 dX12_sinks_25 rfl ?_
      refine e_icmp_eq 29 46 dX12_sinks_26 (by omega) (by decide) (by decide) rfl (fun b26 => ?_) (fun b26 => ?_)
      · skip
        refine e_iconst 47 dX12_sinks_46 rfl ?_
        refine e_zret dX12_sinks_47 (by decide) ?_
        first | exact h1 (by unfold rSinks; omega) | exact h0 (by unfold rSinks; omega) | (exfalso; omega)
      · skip
        refine e_aload_n (i := 0) 30 dX12_sinks_29 rfl rfl rfl ?_
        refine e_iload_n (i := 1) 31 dX12_sinks_30 rfl rfl rfl ?_
        refine e_iload 33 dX12_sinks_31 rfl rfl ?_
        refine e_iload_n (i := 2) 34 dX12_sinks_33 rfl rfl rfl ?_
        refine e_iload_n (i := 3) 35 dX12_sinks_34 rfl rfl rfl ?_
        refine e_callV 38 mt_yX12_lifeOf mv_yX12_lifeOf wd_1680 (by decide) dX12_sinks_35 at_928 jc_12 rfl rfl rfl (Nat.le_of_ble_eq_true rfl) (jroom (by decide)) rfl (m_lifeOf hC (by omega) (by omega) (by omega) (by omega) (by omega) ?_)
        dsimp only [jpush]
        refine e_iconst 39 dX12_sinks_38 rfl ?_
        refine e_icmp_eq 42 46 dX12_sinks_39 (by omega) (by decide) (by decide) rfl (fun b39 => ?_) (fun b39 => ?_)
        · skip
          refine e_iconst 47 dX12_sinks_46 rfl ?_
          refine e_zret dX12_sinks_47 (by decide) ?_
          first | exact h1 (by unfold rSinks; omega) | exact h0 (by unfold rSinks; omega) | (exfalso; omega)
        · skip
          refine e_iconst 43 dX12_sinks_42 rfl ?_
          refine e_goto 47 dX12_sinks_43 (by decide) ?_
          refine e_zret dX12_sinks_47 (by decide) ?_
          first | exact h1 (by unfold rSinks; omega) | exact h0 (by unfold rSinks; omega) | (exfalso; omega)
    · dsimp only [jpush]
      (try have hcr := rChg_rng (loan := M 929 (3759 + q)) (hv := 1) hC.rlaw (by omega) (by omega))
      refine e_iconst 26 dX12_sinks_25 rfl ?_
      refine e_icmp_eq 29 46 dX12_sinks_26 (by decide) (by decide) (by decide) rfl (fun _ => ?_) (fun h => absurd h (by decide))
      refine e_iconst 47 dX12_sinks_46 rfl ?_
      refine e_zret dX12_sinks_47 (by decide) ?_
      first | exact h1 (by unfold rSinks; omega) | exact h0 (by unfold rSinks; omega) | (exfalso; omega)

theorem lm_street {X : jX} {wk more : Int} {M : jM} {Q : Int → jM → Prop} (hC : CR M) (hwk : 0 ≤ wk ∧ wk ≤ 104) (hm : 0 ≤ more ∧ more ≤ 999) (h : Q (rBits (fun p => decide (rSinks (M 929) wk more p)) (M 929 643).toNat) M) : ∀ (n i : Nat), (i : Int) + n = M 929 643 → ∀ (ii s : Int), ii = i → s = rBits (fun p => decide (rSinks (M 929) wk more p)) i → jE X yX12_street cX12_street 5 (some .int) 4 Q M 37 [(0, jR 928), (1, jI wk), (2, jI more), (3, jI s), (4, jI ii)] [] := by
  intro n
  induction n with
  | zero =>
    intro i hi ii s hii hs
    have hg := hC.rng
    have hbr := rBits_rng (fun p => decide (rSinks (M 929) wk more p)) i
    have e : (M 929 643).toNat = i := by omega
    rw [e, ← hs] at h
    refine e_iload 39 dX12_street_37 rfl rfl ?_
    refine e_aload_n (i := 0) 40 dX12_street_39 rfl rfl rfl ?_
    refine e_getr (j := 1) 43 fl_12_13 dX12_street_40 at_928 rfl rfl tp_928_1 rfl ?_
    refine e_sipush 46 dX12_street_43 (by decide) rfl ?_
    refine e_iald 47 dX12_street_46 ar_929 (by decide) (by decide) rfl (fun r46 => ?_)
    refine e_icmp_ge 50 78 dX12_street_47 (by omega) (by omega) (by decide) rfl (fun b47 => ?_) (fun b47 => ?_)
    · skip
      refine e_iload_n (i := 3) 79 dX12_street_78 rfl rfl rfl ?_
      refine e_iret dX12_street_79 ?_
      exact h
    · omega
  | succ n ih =>
    intro i hi ii s hii hs
    have hg := hC.rng
    have hbr := rBits_rng (fun p => decide (rSinks (M 929) wk more p)) i
    skip
    refine e_iload 39 dX12_street_37 rfl rfl ?_
    refine e_aload_n (i := 0) 40 dX12_street_39 rfl rfl rfl ?_
    refine e_getr (j := 1) 43 fl_12_13 dX12_street_40 at_928 rfl rfl tp_928_1 rfl ?_
    refine e_sipush 46 dX12_street_43 (by decide) rfl ?_
    refine e_iald 47 dX12_street_46 ar_929 (by decide) (by decide) rfl (fun r46 => ?_)
    refine e_icmp_ge 50 78 dX12_street_47 (by omega) (by omega) (by decide) rfl (fun b47 => ?_) (fun b47 => ?_)
    · omega
    · skip
      refine e_iload_n (i := 3) 51 dX12_street_50 rfl rfl rfl ?_
      refine e_aload_n (i := 0) 52 dX12_street_51 rfl rfl rfl ?_
      refine e_iload 54 dX12_street_52 rfl rfl ?_
      refine e_iload_n (i := 1) 55 dX12_street_54 rfl rfl rfl ?_
      refine e_iload_n (i := 2) 56 dX12_street_55 rfl rfl rfl ?_
      refine e_callV 59 mt_yX12_sinks mv_yX12_sinks wd_1755 (by decide) dX12_street_56 at_928 jc_12 rfl rfl rfl (Nat.le_of_ble_eq_true rfl) (jroom (by decide)) rfl (m_sinks hC (by omega) (by omega) (by omega) (fun w56 => ?_) (fun w56 => ?_))
      · dsimp only [jpush]
        refine e_if_eq 62 69 dX12_street_59 (by decide) (by decide) rfl (fun h => absurd h (by decide)) (fun _ => ?_)
        refine e_iconst 63 dX12_street_62 rfl ?_
        refine e_iload 65 dX12_street_63 rfl rfl ?_
        refine e_ishl 66 dX12_street_65 rfl ?_
        refine e_goto 70 dX12_street_66 (by decide) ?_
        refine e_ior 71 dX12_street_70 rfl ?_
        refine e_istore_n (i := 3) (lsn := [(3, _), (0, _), (1, _), (2, _), (4, _)]) 72 dX12_street_71 rfl (by decide) rfl rfl ?_
        refine e_iinc (lsn := [(4, _), (3, _), (0, _), (1, _), (2, _)]) 75 dX12_street_72 rfl (by decide) rfl rfl ?_
        refine e_goto 37 dX12_street_75 (by decide) ?_
        refine e_ls (ls2 := [(0, _), (1, _), (2, _), (3, _), (4, _)]) rfl ?_
        refine ih (i + 1) (by omega) _ _ (by omega) ?_
        rw [rBits, if_pos (by rw [decide_eq_true_iff, ← hii]; exact w56), hs, hii]
      · dsimp only [jpush]
        refine e_if_eq 62 69 dX12_street_59 (by decide) (by decide) rfl (fun _ => ?_) (fun h => absurd h (by decide))
        refine e_iconst 70 dX12_street_69 rfl ?_
        refine e_ior 71 dX12_street_70 rfl ?_
        refine e_istore_n (i := 3) (lsn := [(3, _), (0, _), (1, _), (2, _), (4, _)]) 72 dX12_street_71 rfl (by decide) rfl rfl ?_
        refine e_iinc (lsn := [(4, _), (3, _), (0, _), (1, _), (2, _)]) 75 dX12_street_72 rfl (by decide) rfl rfl ?_
        refine e_goto 37 dX12_street_75 (by decide) ?_
        refine e_ls (ls2 := [(0, _), (1, _), (2, _), (3, _), (4, _)]) rfl ?_
        rw [jor_0 (by omega)]
        refine ih (i + 1) (by omega) _ _ (by omega) ?_
        rw [rBits, if_neg (by rw [decide_eq_true_iff, ← hii]; exact w56), hs]

theorem p_street {M : jM} (hI : Inv M) {wk : Int} (hwk : -2147483648 ≤ wk ∧ wk ≤ 2147483647) {more : Int} (hmore : -2147483648 ≤ more ∧ more ≤ 2147483647) : jCt yX11_street cX11_street 3 (some .int) 4 [jR 0, jI wk, jI more] M (fun z M1 => jCt yX12_street cX12_street 5 (some .int) 4 [jR 928, jI wk, jI more] M1 (fun z2 M2 => z = z2 ∧ Inv M2)) := by
  have hC := hI.cr
  have hn := hC.cnt
  have hg := hC.rng
  refine jCt_of mt_yX11_street (Nat.le_of_ble_eq_true rfl) (fun X => ?_)
  refine e_iload_n (i := 1) 1 dX11_street_0 rfl rfl rfl ?_
  refine e_iload_n (i := 2) 2 dX11_street_1 rfl rfl rfl ?_
  refine e_callS 5 mt_yX11_isLifeSpan ms_yX11_isLifeSpan wd_1017 (by decide) dX11_street_2 rfl rfl (Nat.le_of_ble_eq_true rfl) (jroom (by decide)) rfl (c_isLifeSpan (by omega) (by omega) (fun w2 => ?_) (fun w2 => ?_))
  · dsimp only [jpush]
    refine e_if_eq 8 20 dX11_street_5 (by decide) (by decide) rfl (fun h => absurd h (by decide)) (fun _ => ?_)
    refine e_aload_n (i := 0) 9 dX11_street_8 rfl rfl rfl ?_
    refine e_getr (j := 0) 12 fl_11_10 dX11_street_9 at_0 rfl rfl tp_0_0 rfl ?_
    refine e_iload_n (i := 1) 13 dX11_street_12 rfl rfl rfl ?_
    refine e_iload_n (i := 2) 14 dX11_street_13 rfl rfl rfl ?_
    refine e_callV 17 mt_yX8_sinkingPeople mv_yX8_sinkingPeople wd_1140 (by decide) dX11_street_14 at_1 jc_8 rfl rfl rfl (Nat.le_of_ble_eq_true rfl) (jroom (by decide)) rfl (c_sinkingP hC (by omega) (by omega) ?_)
    dsimp only [jpush]
    refine e_goto 22 dX11_street_17 (by decide) ?_
    refine e_iret dX11_street_22 ?_
    refine jCt_of mt_yX12_street (Nat.le_of_ble_eq_true rfl) (fun X2 => ?_)
    refine e_aload_n (i := 0) 1 dX12_street_0 rfl rfl rfl ?_
    refine e_iconst 2 dX12_street_1 rfl ?_
    refine e_put0 (j := 0) 5 fl_12_1 dX12_street_2 at_928 rfl rfl rfl (by decide) hI.1 rfl ?_
    refine e_iload_n (i := 1) 6 dX12_street_5 rfl rfl rfl ?_
    refine e_i2l 7 dX12_street_6 (by omega) rfl ?_
    refine e_lconst1 8 dX12_street_7 rfl ?_
    refine e_ldc2 (z := (104)) 11 (ix := 304) wd_1679 (by decide) dX12_street_8 rfl ?_
    refine e_callS 14 mt_yX12_within ms_yX12_within wd_1390 (by decide) dX12_street_11 rfl rfl (Nat.le_of_ble_eq_true rfl) (jroom (by decide)) rfl (m_within (by omega) (by omega) (by omega) (fun w11 => ?_) (fun w11 => ?_))
    · dsimp only [jpush]
      first
       | (exfalso; omega)
       | (skip
          refine e_if_eq 17 29 dX12_street_14 (by decide) (by decide) rfl (fun h => absurd h (by decide)) (fun _ => ?_)
          refine e_iload_n (i := 2) 18 dX12_street_17 rfl rfl rfl ?_
          refine e_i2l 19 dX12_street_18 (by omega) rfl ?_
          refine e_lconst0 20 dX12_street_19 rfl ?_
          refine e_ldc2 (z := (999)) 23 (ix := 198) wd_1482 (by decide) dX12_street_20 rfl ?_
          refine e_callS 26 mt_yX12_within ms_yX12_within wd_1390 (by decide) dX12_street_23 rfl rfl (Nat.le_of_ble_eq_true rfl) (jroom (by decide)) rfl (m_within (by omega) (by omega) (by omega) (fun w23 => ?_) (fun w23 => ?_))
          · dsimp only [jpush]
            first
             | (exfalso; omega)
             | (skip
                refine e_if_ne 29 32 dX12_street_26 (by decide) (by decide) rfl (fun _ => ?_) (fun h => absurd h (by decide))
                refine e_iconst 33 dX12_street_32 rfl ?_
                refine e_istore_n (i := 3) (lsn := [(3, _), (0, _), (1, _), (2, _)]) 34 dX12_street_33 rfl (by decide) rfl rfl ?_
                refine e_iconst 35 dX12_street_34 rfl ?_
                refine e_istore (lsn := [(4, _), (3, _), (0, _), (1, _), (2, _)]) 37 dX12_street_35 (by decide) rfl rfl ?_
                refine e_ls (ls2 := [(0, _), (1, _), (2, _), (3, _), (4, _)]) rfl ?_
                exact lm_street (Q := fun z2 M2 => _ = z2 ∧ Inv M2) hC (by omega) (by omega) ⟨rfl, hI⟩ (M 929 643).toNat 0 (by omega) _ _ rfl rfl)
          · dsimp only [jpush]
            first
             | (exfalso; omega)
             | (skip
                refine e_if_ne 29 32 dX12_street_26 (by decide) (by decide) rfl (fun h => absurd h (by decide)) (fun _ => ?_)
                refine e_bipush 31 dX12_street_29 (by decide) rfl ?_
                refine e_iret dX12_street_31 ?_
                first
                  | (exact ⟨by omega, hI⟩)
                  | (exfalso; omega)))
    · dsimp only [jpush]
      first
       | (exfalso; omega)
       | (skip
          refine e_if_eq 17 29 dX12_street_14 (by decide) (by decide) rfl (fun _ => ?_) (fun h => absurd h (by decide))
          refine e_bipush 31 dX12_street_29 (by decide) rfl ?_
          refine e_iret dX12_street_31 ?_
          first
            | (exact ⟨by omega, hI⟩)
            | (exfalso; omega))
  · dsimp only [jpush]
    refine e_if_eq 8 20 dX11_street_5 (by decide) (by decide) rfl (fun _ => ?_) (fun h => absurd h (by decide))
    refine e_bipush 22 dX11_street_20 (by decide) rfl ?_
    refine e_iret dX11_street_22 ?_
    refine jCt_of mt_yX12_street (Nat.le_of_ble_eq_true rfl) (fun X2 => ?_)
    refine e_aload_n (i := 0) 1 dX12_street_0 rfl rfl rfl ?_
    refine e_iconst 2 dX12_street_1 rfl ?_
    refine e_put0 (j := 0) 5 fl_12_1 dX12_street_2 at_928 rfl rfl rfl (by decide) hI.1 rfl ?_
    refine e_iload_n (i := 1) 6 dX12_street_5 rfl rfl rfl ?_
    refine e_i2l 7 dX12_street_6 (by omega) rfl ?_
    refine e_lconst1 8 dX12_street_7 rfl ?_
    refine e_ldc2 (z := (104)) 11 (ix := 304) wd_1679 (by decide) dX12_street_8 rfl ?_
    refine e_callS 14 mt_yX12_within ms_yX12_within wd_1390 (by decide) dX12_street_11 rfl rfl (Nat.le_of_ble_eq_true rfl) (jroom (by decide)) rfl (m_within (by omega) (by omega) (by omega) (fun w11 => ?_) (fun w11 => ?_))
    · dsimp only [jpush]
      first
       | (exfalso; omega)
       | (skip
          refine e_if_eq 17 29 dX12_street_14 (by decide) (by decide) rfl (fun h => absurd h (by decide)) (fun _ => ?_)
          refine e_iload_n (i := 2) 18 dX12_street_17 rfl rfl rfl ?_
          refine e_i2l 19 dX12_street_18 (by omega) rfl ?_
          refine e_lconst0 20 dX12_street_19 rfl ?_
          refine e_ldc2 (z := (999)) 23 (ix := 198) wd_1482 (by decide) dX12_street_20 rfl ?_
          refine e_callS 26 mt_yX12_within ms_yX12_within wd_1390 (by decide) dX12_street_23 rfl rfl (Nat.le_of_ble_eq_true rfl) (jroom (by decide)) rfl (m_within (by omega) (by omega) (by omega) (fun w23 => ?_) (fun w23 => ?_))
          · dsimp only [jpush]
            first
             | (exfalso; omega)
             | (skip
                refine e_if_ne 29 32 dX12_street_26 (by decide) (by decide) rfl (fun _ => ?_) (fun h => absurd h (by decide))
                refine e_iconst 33 dX12_street_32 rfl ?_
                refine e_istore_n (i := 3) (lsn := [(3, _), (0, _), (1, _), (2, _)]) 34 dX12_street_33 rfl (by decide) rfl rfl ?_
                refine e_iconst 35 dX12_street_34 rfl ?_
                refine e_istore (lsn := [(4, _), (3, _), (0, _), (1, _), (2, _)]) 37 dX12_street_35 (by decide) rfl rfl ?_
                refine e_ls (ls2 := [(0, _), (1, _), (2, _), (3, _), (4, _)]) rfl ?_
                exact lm_street (Q := fun z2 M2 => _ = z2 ∧ Inv M2) hC (by omega) (by omega) ⟨rfl, hI⟩ (M 929 643).toNat 0 (by omega) _ _ rfl rfl)
          · dsimp only [jpush]
            first
             | (exfalso; omega)
             | (skip
                refine e_if_ne 29 32 dX12_street_26 (by decide) (by decide) rfl (fun h => absurd h (by decide)) (fun _ => ?_)
                refine e_bipush 31 dX12_street_29 (by decide) rfl ?_
                refine e_iret dX12_street_31 ?_
                first
                  | (exact ⟨by omega, hI⟩)
                  | (exfalso; omega)))
    · dsimp only [jpush]
      first
       | (exfalso; omega)
       | (skip
          refine e_if_eq 17 29 dX12_street_14 (by decide) (by decide) rfl (fun _ => ?_) (fun h => absurd h (by decide))
          refine e_bipush 31 dX12_street_29 (by decide) rfl ?_
          refine e_iret dX12_street_31 ?_
          first
            | (exact ⟨by omega, hI⟩)
            | (exfalso; omega))

theorem lm_shilling {X : jX} {wk : Int} {M : jM} {Q : Int → jM → Prop} (hC : CR M) (hwk : 0 ≤ wk ∧ wk ≤ 104) (h : Q (rBits (fun p => decide (rSinks (M 929) wk 0 p) && !decide (rSinks (M 929) wk 12 p)) (M 929 643).toNat) M) : ∀ (n i : Nat), (i : Int) + n = M 929 643 → ∀ (ii s : Int), ii = i → s = rBits (fun p => decide (rSinks (M 929) wk 0 p) && !decide (rSinks (M 929) wk 12 p)) i → jE X yX12_shilling cX12_shilling 4 (some .int) 4 Q M 24 [(0, jR 928), (1, jI wk), (2, jI s), (3, jI ii)] [] := by
  intro n
  induction n with
  | zero =>
    intro i hi ii s hii hs
    have hg := hC.rng
    have hbr := rBits_rng (fun p => decide (rSinks (M 929) wk 0 p) && !decide (rSinks (M 929) wk 12 p)) i
    have e : (M 929 643).toNat = i := by omega
    rw [e, ← hs] at h
    refine e_iload_n (i := 3) 25 dX12_shilling_24 rfl rfl rfl ?_
    refine e_aload_n (i := 0) 26 dX12_shilling_25 rfl rfl rfl ?_
    refine e_getr (j := 1) 29 fl_12_13 dX12_shilling_26 at_928 rfl rfl tp_928_1 rfl ?_
    refine e_sipush 32 dX12_shilling_29 (by decide) rfl ?_
    refine e_iald 33 dX12_shilling_32 ar_929 (by decide) (by decide) rfl (fun r32 => ?_)
    refine e_icmp_ge 36 73 dX12_shilling_33 (by omega) (by omega) (by decide) rfl (fun b33 => ?_) (fun b33 => ?_)
    · skip
      refine e_iload_n (i := 2) 74 dX12_shilling_73 rfl rfl rfl ?_
      refine e_iret dX12_shilling_74 ?_
      exact h
    · omega
  | succ n ih =>
    intro i hi ii s hii hs
    have hg := hC.rng
    have hbr := rBits_rng (fun p => decide (rSinks (M 929) wk 0 p) && !decide (rSinks (M 929) wk 12 p)) i
    skip
    refine e_iload_n (i := 3) 25 dX12_shilling_24 rfl rfl rfl ?_
    refine e_aload_n (i := 0) 26 dX12_shilling_25 rfl rfl rfl ?_
    refine e_getr (j := 1) 29 fl_12_13 dX12_shilling_26 at_928 rfl rfl tp_928_1 rfl ?_
    refine e_sipush 32 dX12_shilling_29 (by decide) rfl ?_
    refine e_iald 33 dX12_shilling_32 ar_929 (by decide) (by decide) rfl (fun r32 => ?_)
    refine e_icmp_ge 36 73 dX12_shilling_33 (by omega) (by omega) (by decide) rfl (fun b33 => ?_) (fun b33 => ?_)
    · omega
    · skip
      refine e_iload_n (i := 2) 37 dX12_shilling_36 rfl rfl rfl ?_
      refine e_aload_n (i := 0) 38 dX12_shilling_37 rfl rfl rfl ?_
      refine e_iload_n (i := 3) 39 dX12_shilling_38 rfl rfl rfl ?_
      refine e_iload_n (i := 1) 40 dX12_shilling_39 rfl rfl rfl ?_
      refine e_iconst 41 dX12_shilling_40 rfl ?_
      refine e_callV 44 mt_yX12_sinks mv_yX12_sinks wd_1755 (by decide) dX12_shilling_41 at_928 jc_12 rfl rfl rfl (Nat.le_of_ble_eq_true rfl) (jroom (by decide)) rfl (m_sinks hC (by omega) (by omega) (by omega) (fun w41 => ?_) (fun w41 => ?_))
      · dsimp only [jpush]
        refine e_if_eq 47 64 dX12_shilling_44 (by decide) (by decide) rfl (fun h => absurd h (by decide)) (fun _ => ?_)
        refine e_aload_n (i := 0) 48 dX12_shilling_47 rfl rfl rfl ?_
        refine e_iload_n (i := 3) 49 dX12_shilling_48 rfl rfl rfl ?_
        refine e_iload_n (i := 1) 50 dX12_shilling_49 rfl rfl rfl ?_
        refine e_bipush 52 dX12_shilling_50 (by decide) rfl ?_
        refine e_callV 55 mt_yX12_sinks mv_yX12_sinks wd_1755 (by decide) dX12_shilling_52 at_928 jc_12 rfl rfl rfl (Nat.le_of_ble_eq_true rfl) (jroom (by decide)) rfl (m_sinks hC (by omega) (by omega) (by omega) (fun w52 => ?_) (fun w52 => ?_))
        · dsimp only [jpush]
          refine e_if_ne 58 64 dX12_shilling_55 (by decide) (by decide) rfl (fun _ => ?_) (fun h => absurd h (by decide))
          refine e_iconst 65 dX12_shilling_64 rfl ?_
          refine e_ior 66 dX12_shilling_65 rfl ?_
          refine e_istore_n (i := 2) (lsn := [(2, _), (0, _), (1, _), (3, _)]) 67 dX12_shilling_66 rfl (by decide) rfl rfl ?_
          refine e_iinc (lsn := [(3, _), (2, _), (0, _), (1, _)]) 70 dX12_shilling_67 rfl (by decide) rfl rfl ?_
          refine e_goto 24 dX12_shilling_70 (by decide) ?_
          refine e_ls (ls2 := [(0, _), (1, _), (2, _), (3, _)]) rfl ?_
          rw [jor_0 (by omega)]
          refine ih (i + 1) (by omega) _ _ (by omega) ?_
          rw [rBits, if_neg (by rw [← hii]; simp only [decide_eq_true w41, decide_eq_true w52]; decide), hs]
        · dsimp only [jpush]
          refine e_if_ne 58 64 dX12_shilling_55 (by decide) (by decide) rfl (fun h => absurd h (by decide)) (fun _ => ?_)
          refine e_iconst 59 dX12_shilling_58 rfl ?_
          refine e_iload_n (i := 3) 60 dX12_shilling_59 rfl rfl rfl ?_
          refine e_ishl 61 dX12_shilling_60 rfl ?_
          refine e_goto 65 dX12_shilling_61 (by decide) ?_
          refine e_ior 66 dX12_shilling_65 rfl ?_
          refine e_istore_n (i := 2) (lsn := [(2, _), (0, _), (1, _), (3, _)]) 67 dX12_shilling_66 rfl (by decide) rfl rfl ?_
          refine e_iinc (lsn := [(3, _), (2, _), (0, _), (1, _)]) 70 dX12_shilling_67 rfl (by decide) rfl rfl ?_
          refine e_goto 24 dX12_shilling_70 (by decide) ?_
          refine e_ls (ls2 := [(0, _), (1, _), (2, _), (3, _)]) rfl ?_
          refine ih (i + 1) (by omega) _ _ (by omega) ?_
          rw [rBits, if_pos (by rw [← hii]; simp only [decide_eq_true w41, decide_eq_false w52]; decide), hs, hii]
      · dsimp only [jpush]
        refine e_if_eq 47 64 dX12_shilling_44 (by decide) (by decide) rfl (fun _ => ?_) (fun h => absurd h (by decide))
        refine e_iconst 65 dX12_shilling_64 rfl ?_
        refine e_ior 66 dX12_shilling_65 rfl ?_
        refine e_istore_n (i := 2) (lsn := [(2, _), (0, _), (1, _), (3, _)]) 67 dX12_shilling_66 rfl (by decide) rfl rfl ?_
        refine e_iinc (lsn := [(3, _), (2, _), (0, _), (1, _)]) 70 dX12_shilling_67 rfl (by decide) rfl rfl ?_
        refine e_goto 24 dX12_shilling_70 (by decide) ?_
        refine e_ls (ls2 := [(0, _), (1, _), (2, _), (3, _)]) rfl ?_
        rw [jor_0 (by omega)]
        refine ih (i + 1) (by omega) _ _ (by omega) ?_
        rw [rBits, if_neg (by rw [← hii]; simp only [decide_eq_false w41, Bool.false_and]; decide), hs]

theorem p_shilling {M : jM} (hI : Inv M) {wk : Int} (hwk : -2147483648 ≤ wk ∧ wk ≤ 2147483647) : jCt yX11_shilling cX11_shilling 2 (some .int) 4 [jR 0, jI wk] M (fun z M1 => jCt yX12_shilling cX12_shilling 4 (some .int) 4 [jR 928, jI wk] M1 (fun z2 M2 => z = z2 ∧ Inv M2)) := by
  have hC := hI.cr
  have hn := hC.cnt
  have hg := hC.rng
  refine jCt_of mt_yX11_shilling (Nat.le_of_ble_eq_true rfl) (fun X => ?_)
  refine e_iload_n (i := 1) 1 dX11_shilling_0 rfl rfl rfl ?_
  refine e_iconst 2 dX11_shilling_1 rfl ?_
  refine e_callS 5 mt_yX11_isLifeSpan ms_yX11_isLifeSpan wd_1017 (by decide) dX11_shilling_2 rfl rfl (Nat.le_of_ble_eq_true rfl) (jroom (by decide)) rfl (c_isLifeSpan (by omega) (by omega) (fun w2 => ?_) (fun w2 => ?_))
  · dsimp only [jpush]
    refine e_if_ne 8 11 dX11_shilling_5 (by decide) (by decide) rfl (fun _ => ?_) (fun h => absurd h (by decide))
    refine e_aload_n (i := 0) 12 dX11_shilling_11 rfl rfl rfl ?_
    refine e_getr (j := 0) 15 fl_11_10 dX11_shilling_12 at_0 rfl rfl tp_0_0 rfl ?_
    refine e_iload_n (i := 1) 16 dX11_shilling_15 rfl rfl rfl ?_
    refine e_iconst 17 dX11_shilling_16 rfl ?_
    refine e_callV 20 mt_yX8_sinkingPeople mv_yX8_sinkingPeople wd_1140 (by decide) dX11_shilling_17 at_1 jc_8 rfl rfl rfl (Nat.le_of_ble_eq_true rfl) (jroom (by decide)) rfl (c_sinkingP hC (by omega) (by omega) ?_)
    dsimp only [jpush]
    refine e_aload_n (i := 0) 21 dX11_shilling_20 rfl rfl rfl ?_
    refine e_getr (j := 0) 24 fl_11_10 dX11_shilling_21 at_0 rfl rfl tp_0_0 rfl ?_
    refine e_iload_n (i := 1) 25 dX11_shilling_24 rfl rfl rfl ?_
    refine e_bipush 27 dX11_shilling_25 (by decide) rfl ?_
    refine e_callV 30 mt_yX8_sinkingPeople mv_yX8_sinkingPeople wd_1140 (by decide) dX11_shilling_27 at_1 jc_8 rfl rfl rfl (Nat.le_of_ble_eq_true rfl) (jroom (by decide)) rfl (c_sinkingP hC (by omega) (by omega) ?_)
    dsimp only [jpush]
    refine e_iconst 31 dX11_shilling_30 rfl ?_
    refine e_ixor 32 dX11_shilling_31 rfl ?_
    refine e_iand 33 dX11_shilling_32 rfl ?_
    refine e_iret dX11_shilling_33 ?_
    refine jCt_of mt_yX12_shilling (Nat.le_of_ble_eq_true rfl) (fun X2 => ?_)
    refine e_aload_n (i := 0) 1 dX12_shilling_0 rfl rfl rfl ?_
    refine e_iconst 2 dX12_shilling_1 rfl ?_
    refine e_put0 (j := 0) 5 fl_12_1 dX12_shilling_2 at_928 rfl rfl rfl (by decide) hI.1 rfl ?_
    refine e_iload_n (i := 1) 6 dX12_shilling_5 rfl rfl rfl ?_
    refine e_i2l 7 dX12_shilling_6 (by omega) rfl ?_
    refine e_lconst1 8 dX12_shilling_7 rfl ?_
    refine e_ldc2 (z := (104)) 11 (ix := 304) wd_1679 (by decide) dX12_shilling_8 rfl ?_
    refine e_callS 14 mt_yX12_within ms_yX12_within wd_1390 (by decide) dX12_shilling_11 rfl rfl (Nat.le_of_ble_eq_true rfl) (jroom (by decide)) rfl (m_within (by omega) (by omega) (by omega) (fun w11 => ?_) (fun w11 => ?_))
    · dsimp only [jpush]
      first
       | (exfalso; omega)
       | (skip
          refine e_if_ne 17 20 dX12_shilling_14 (by decide) (by decide) rfl (fun _ => ?_) (fun h => absurd h (by decide))
          refine e_iconst 21 dX12_shilling_20 rfl ?_
          refine e_istore_n (i := 2) (lsn := [(2, _), (0, _), (1, _)]) 22 dX12_shilling_21 rfl (by decide) rfl rfl ?_
          refine e_iconst 23 dX12_shilling_22 rfl ?_
          refine e_istore_n (i := 3) (lsn := [(3, _), (2, _), (0, _), (1, _)]) 24 dX12_shilling_23 rfl (by decide) rfl rfl ?_
          refine e_ls (ls2 := [(0, _), (1, _), (2, _), (3, _)]) rfl ?_
          exact lm_shilling (Q := fun z2 M2 => _ = z2 ∧ Inv M2) hC (by omega) ⟨rBits_but _ _ (by omega), hI⟩ (M 929 643).toNat 0 (by omega) _ _ rfl rfl)
    · dsimp only [jpush]
      first
       | (exfalso; omega)
       | (skip
          refine e_if_ne 17 20 dX12_shilling_14 (by decide) (by decide) rfl (fun h => absurd h (by decide)) (fun _ => ?_)
          refine e_bipush 19 dX12_shilling_17 (by decide) rfl ?_
          refine e_iret dX12_shilling_19 ?_
          first
            | (exact ⟨by omega, hI⟩)
            | (exfalso; omega))
  · dsimp only [jpush]
    refine e_if_ne 8 11 dX11_shilling_5 (by decide) (by decide) rfl (fun h => absurd h (by decide)) (fun _ => ?_)
    refine e_bipush 10 dX11_shilling_8 (by decide) rfl ?_
    refine e_iret dX11_shilling_10 ?_
    refine jCt_of mt_yX12_shilling (Nat.le_of_ble_eq_true rfl) (fun X2 => ?_)
    refine e_aload_n (i := 0) 1 dX12_shilling_0 rfl rfl rfl ?_
    refine e_iconst 2 dX12_shilling_1 rfl ?_
    refine e_put0 (j := 0) 5 fl_12_1 dX12_shilling_2 at_928 rfl rfl rfl (by decide) hI.1 rfl ?_
    refine e_iload_n (i := 1) 6 dX12_shilling_5 rfl rfl rfl ?_
    refine e_i2l 7 dX12_shilling_6 (by omega) rfl ?_
    refine e_lconst1 8 dX12_shilling_7 rfl ?_
    refine e_ldc2 (z := (104)) 11 (ix := 304) wd_1679 (by decide) dX12_shilling_8 rfl ?_
    refine e_callS 14 mt_yX12_within ms_yX12_within wd_1390 (by decide) dX12_shilling_11 rfl rfl (Nat.le_of_ble_eq_true rfl) (jroom (by decide)) rfl (m_within (by omega) (by omega) (by omega) (fun w11 => ?_) (fun w11 => ?_))
    · dsimp only [jpush]
      first
       | (exfalso; omega)
       | (skip
          refine e_if_ne 17 20 dX12_shilling_14 (by decide) (by decide) rfl (fun _ => ?_) (fun h => absurd h (by decide))
          refine e_iconst 21 dX12_shilling_20 rfl ?_
          refine e_istore_n (i := 2) (lsn := [(2, _), (0, _), (1, _)]) 22 dX12_shilling_21 rfl (by decide) rfl rfl ?_
          refine e_iconst 23 dX12_shilling_22 rfl ?_
          refine e_istore_n (i := 3) (lsn := [(3, _), (2, _), (0, _), (1, _)]) 24 dX12_shilling_23 rfl (by decide) rfl rfl ?_
          refine e_ls (ls2 := [(0, _), (1, _), (2, _), (3, _)]) rfl ?_
          exact lm_shilling (Q := fun z2 M2 => _ = z2 ∧ Inv M2) hC (by omega) ⟨rBits_but _ _ (by omega), hI⟩ (M 929 643).toNat 0 (by omega) _ _ rfl rfl)
    · dsimp only [jpush]
      first
       | (exfalso; omega)
       | (skip
          refine e_if_ne 17 20 dX12_shilling_14 (by decide) (by decide) rfl (fun h => absurd h (by decide)) (fun _ => ?_)
          refine e_bipush 19 dX12_shilling_17 (by decide) rfl ?_
          refine e_iret dX12_shilling_19 ?_
          first
            | (exact ⟨by omega, hI⟩)
            | (exfalso; omega))

