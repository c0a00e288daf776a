/-! PAIRS: fits, hold -/
theorem P9.scr {M Y : jM} (h : P9 M Y) : Scr M Y := fun k j a b => h k j (by omega)
theorem P9.tr {M Y Z : jM} (h : P9 M Y) (h2 : P9 Y Z) : P9 M Z := fun k j e => by rw [h2 k j e, h k j e]
theorem NR.rf {M : jM} : NR M M := fun _ _ _ _ => rfl
def rFits (a : Int → Int) (look k : Int) : Nat → Int → Int → Int
  | 0, _, c => if k = -1 then c else -1
  | n + 1, p, c => if fitV a look p = true then (if c = k then p else rFits a look k n (p + 1) (c + 1)) else rFits a look k n (p + 1) c
theorem l_fits {X : jX} {look k : Int} {M : jM} {Q : Int → jM → Prop} (hC : CR M) (hl : 0 ≤ look ∧ look < M 929 65) (hk : -2147483648 ≤ k ∧ k ≤ 2147483647) : ∀ (n : Nat) (ii c : Int), 0 ≤ ii → ii + n = M 929 709 → (0 ≤ c ∧ c ≤ ii) → Q (rFits (M 929) look k n ii c) M → jE X yX11_fits cX11_fits 5 (some .int) 4 Q M 28 [(0, jR 0), (1, jI look), (2, jI k), (3, jI c), (4, jI ii)] [] := by
  have hn := hC.cnt
  have hg := hC.rng
  intro n
  induction n with
  | zero =>
    intro ii c h0 hi hr h
    rw [rFits] at h
    refine e_iload 30 dX11_fits_28 rfl rfl ?_
    refine e_aload_n (i := 0) 31 dX11_fits_30 rfl rfl rfl ?_
    refine e_getr (j := 0) 34 fl_11_10 dX11_fits_31 at_0 rfl rfl tp_0_0 rfl ?_
    refine e_geti (j := 10) 37 fl_11_271 dX11_fits_34 at_1 (by decide) rfl rfl (fun r34 => ?_)
    refine e_icmp_ge 40 70 dX11_fits_37 (by omega) (by omega) (by decide) rfl (fun b37 => ?_) (fun b37 => ?_)
    · skip
      refine e_iload_n (i := 2) 71 dX11_fits_70 rfl rfl rfl ?_
      refine e_iconst 72 dX11_fits_71 rfl ?_
      refine e_icmp_ne 75 79 dX11_fits_72 (by omega) (by decide) (by decide) rfl (fun b72 => ?_) (fun b72 => ?_)
      · skip
        refine e_iconst 80 dX11_fits_79 rfl ?_
        refine e_iret dX11_fits_80 ?_
        rw [if_neg (by omega)] at h
        exact h
      · skip
        refine e_iload_n (i := 3) 76 dX11_fits_75 rfl rfl rfl ?_
        refine e_goto 80 dX11_fits_76 (by decide) ?_
        refine e_iret dX11_fits_80 ?_
        rw [if_pos (by omega)] at h
        exact h
    · omega
  | succ n ih =>
    intro ii c h0 hi hr h
    rw [rFits] at h
    refine e_iload 30 dX11_fits_28 rfl rfl ?_
    refine e_aload_n (i := 0) 31 dX11_fits_30 rfl rfl rfl ?_
    refine e_getr (j := 0) 34 fl_11_10 dX11_fits_31 at_0 rfl rfl tp_0_0 rfl ?_
    refine e_geti (j := 10) 37 fl_11_271 dX11_fits_34 at_1 (by decide) rfl rfl (fun r34 => ?_)
    refine e_icmp_ge 40 70 dX11_fits_37 (by omega) (by omega) (by decide) rfl (fun b37 => ?_) (fun b37 => ?_)
    · omega
    · skip
      refine e_aload_n (i := 0) 41 dX11_fits_40 rfl rfl rfl ?_
      refine e_getr (j := 0) 44 fl_11_10 dX11_fits_41 at_0 rfl rfl tp_0_0 rfl ?_
      refine e_iload_n (i := 1) 45 dX11_fits_44 rfl rfl rfl ?_
      refine e_iload 47 dX11_fits_45 rfl rfl ?_
      refine e_callV 50 mt_yX8_fitsLook mv_yX8_fitsLook wd_1057 (by decide) dX11_fits_47 at_1 jc_8 rfl rfl rfl (Nat.le_of_ble_eq_true rfl) (jroom (by decide)) rfl (c_fitsLook hC NH.rf (by omega) (by omega) (by omega) (fun w47 => ?_) (fun w47 => ?_))
      · dsimp only [jpush]
        refine e_if_eq 53 64 dX11_fits_50 (by decide) (by decide) rfl (fun h => absurd h (by decide)) (fun _ => ?_)
        refine e_iload_n (i := 3) 54 dX11_fits_53 rfl rfl rfl ?_
        refine e_iload_n (i := 2) 55 dX11_fits_54 rfl rfl rfl ?_
        refine e_icmp_ne 58 61 dX11_fits_55 (by omega) (by omega) (by decide) rfl (fun b55 => ?_) (fun b55 => ?_)
        · skip
          refine e_iinc (lsn := [(3, _), (0, _), (1, _), (2, _), (4, _)]) 64 dX11_fits_61 rfl (by decide) rfl rfl ?_
          refine e_iinc (lsn := [(4, _), (3, _), (0, _), (1, _), (2, _)]) 67 dX11_fits_64 rfl (by decide) rfl rfl ?_
          refine e_goto 28 dX11_fits_67 (by decide) ?_
          refine e_ls (ls2 := [(0, _), (1, _), (2, _), (3, _), (4, _)]) rfl ?_
          rw [if_pos w47, if_neg (by omega)] at h
          exact ih _ _ (by omega) (by omega) (by omega) h
        · skip
          refine e_iload 60 dX11_fits_58 rfl rfl ?_
          refine e_iret dX11_fits_60 ?_
          rw [if_pos w47, if_pos (by omega)] at h
          exact h
      · dsimp only [jpush]
        refine e_if_eq 53 64 dX11_fits_50 (by decide) (by decide) rfl (fun _ => ?_) (fun h => absurd h (by decide))
        refine e_iinc (lsn := [(4, _), (0, _), (1, _), (2, _), (3, _)]) 67 dX11_fits_64 rfl (by decide) rfl rfl ?_
        refine e_goto 28 dX11_fits_67 (by decide) ?_
        refine e_ls (ls2 := [(0, _), (1, _), (2, _), (3, _), (4, _)]) rfl ?_
        rw [if_neg (by rw [w47]; decide)] at h
        exact ih _ _ (by omega) (by omega) (by omega) h

theorem c_fits {look k : Int} {M : jM} {Q : Int → jM → Prop} (hC : CR M) (hll : -2147483648 ≤ look ∧ look ≤ 2147483647) (hk : -2147483648 ≤ k ∧ k ≤ 2147483647) (h2 : look < 0 ∨ M 929 65 ≤ look → Q (-2) M) (h : 0 ≤ look ∧ look < M 929 65 → Q (rFits (M 929) look k (M 929 709).toNat 0 0) M) : jCt yX11_fits cX11_fits 5 (some .int) 4 [jR 0, jI look, jI k] M Q := by
  refine jCt_of mt_yX11_fits (Nat.le_of_ble_eq_true rfl) (fun X => ?_)
  have hg := hC.rng
  have hlk := hC.look
  have hl65 := hC.lkr.1
  refine e_iload_n (i := 1) 1 dX11_fits_0 rfl rfl rfl ?_
  refine e_iconst 2 dX11_fits_1 rfl ?_
  refine e_aload_n (i := 0) 3 dX11_fits_2 rfl rfl rfl ?_
  refine e_getr (j := 0) 6 fl_11_10 dX11_fits_3 at_0 rfl rfl tp_0_0 rfl ?_
  refine e_getr (j := 3) 9 fl_11_87 dX11_fits_6 at_1 rfl rfl tp_1_3 rfl ?_
  refine e_geti (j := 0) 12 fl_11_97 dX11_fits_9 at_12 (by decide) rfl rfl (fun r9 => ?_)
  refine e_iconst 13 dX11_fits_12 rfl ?_
  refine e_isub 14 dX11_fits_13 rfl ?_
  refine e_callS 17 mt_yX11_within ms_yX11_within wd_531 (by decide) dX11_fits_14 rfl rfl (Nat.le_of_ble_eq_true rfl) (jroom (by decide)) rfl (c_within (by omega) (by omega) (by omega) (fun w14 => ?_) (fun w14 => ?_))
  · dsimp only [jpush]
    refine e_if_ne 20 23 dX11_fits_17 (by decide) (by decide) rfl (fun _ => ?_) (fun h => absurd h (by decide))
    refine e_iconst 24 dX11_fits_23 rfl ?_
    refine e_istore_n (i := 3) (lsn := [(3, _), (0, _), (1, _), (2, _)]) 25 dX11_fits_24 rfl (by decide) rfl rfl ?_
    refine e_iconst 26 dX11_fits_25 rfl ?_
    refine e_istore (lsn := [(4, _), (3, _), (0, _), (1, _), (2, _)]) 28 dX11_fits_26 (by decide) rfl rfl ?_
    refine e_ls (ls2 := [(0, _), (1, _), (2, _), (3, _), (4, _)]) rfl ?_
    exact l_fits hC (by omega) hk (M 929 709).toNat 0 0 (by omega) (by omega) (by omega) (h (by omega))
  · dsimp only [jpush]
    refine e_if_ne 20 23 dX11_fits_17 (by decide) (by decide) rfl (fun h => absurd h (by decide)) (fun _ => ?_)
    refine e_bipush 22 dX11_fits_20 (by decide) rfl ?_
    refine e_iret dX11_fits_22 ?_
    exact h2 (by omega)

theorem lm_fits {X : jX} {look k : Int} {M : jM} {Q : Int → jM → Prop} (hC : CR M) (hl : 0 ≤ look ∧ look < M 929 65) (hk : -2147483648 ≤ k ∧ k ≤ 2147483647) : ∀ (n : Nat) (ii c : Int) (Y : jM), 0 ≤ ii → ii + n = M 929 709 → (0 ≤ c ∧ c ≤ ii) → P9 M Y → (∀ Z : jM, P9 M Z → Q (rFits (M 929) look k n ii c) Z) → jE X yX12_fits cX12_fits 5 (some .int) 4 Q Y 32 [(0, jR 928), (1, jI look), (2, jI k), (3, jI c), (4, jI ii)] [] := by
  have hn := hC.cnt
  have hg := hC.rng
  intro n
  induction n with
  | zero =>
    intro ii c Y h0 hi hr hP h
    have e7 : Y 929 709 = M 929 709 := hP _ _ (by omega)
    have h := h Y hP
    rw [rFits] at h
    refine e_iload 34 dX12_fits_32 rfl rfl ?_
    refine e_aload_n (i := 0) 35 dX12_fits_34 rfl rfl rfl ?_
    refine e_getr (j := 1) 38 fl_12_13 dX12_fits_35 at_928 rfl rfl tp_928_1 rfl ?_
    refine e_sipush 41 dX12_fits_38 (by decide) rfl ?_
    refine e_iald 42 dX12_fits_41 ar_929 (by decide) (by decide) rfl (fun r41 => ?_)
    refine e_icmp_ge 45 75 dX12_fits_42 (by omega) (by omega) (by decide) rfl (fun b42 => ?_) (fun b42 => ?_)
    · skip
      refine e_iload_n (i := 2) 76 dX12_fits_75 rfl rfl rfl ?_
      refine e_iconst 77 dX12_fits_76 rfl ?_
      refine e_icmp_ne 80 84 dX12_fits_77 (by omega) (by decide) (by decide) rfl (fun b77 => ?_) (fun b77 => ?_)
      · skip
        refine e_iconst 85 dX12_fits_84 rfl ?_
        refine e_iret dX12_fits_85 ?_
        rw [if_neg (by omega)] at h
        exact h
      · skip
        refine e_iload_n (i := 3) 81 dX12_fits_80 rfl rfl rfl ?_
        refine e_goto 85 dX12_fits_81 (by decide) ?_
        refine e_iret dX12_fits_85 ?_
        rw [if_pos (by omega)] at h
        exact h
    · omega
  | succ n ih =>
    intro ii c Y h0 hi hr hP h
    have e7 : Y 929 709 = M 929 709 := hP _ _ (by omega)
    rw [rFits] at h
    refine e_iload 34 dX12_fits_32 rfl rfl ?_
    refine e_aload_n (i := 0) 35 dX12_fits_34 rfl rfl rfl ?_
    refine e_getr (j := 1) 38 fl_12_13 dX12_fits_35 at_928 rfl rfl tp_928_1 rfl ?_
    refine e_sipush 41 dX12_fits_38 (by decide) rfl ?_
    refine e_iald 42 dX12_fits_41 ar_929 (by decide) (by decide) rfl (fun r41 => ?_)
    refine e_icmp_ge 45 75 dX12_fits_42 (by omega) (by omega) (by decide) rfl (fun b42 => ?_) (fun b42 => ?_)
    · omega
    · skip
      refine e_aload_n (i := 0) 46 dX12_fits_45 rfl rfl rfl ?_
      refine e_iload_n (i := 1) 47 dX12_fits_46 rfl rfl rfl ?_
      refine e_iload 49 dX12_fits_47 rfl rfl ?_
      refine e_callV 52 mt_yX12_isFit mv_yX12_isFit wd_1700 (by decide) dX12_fits_49 at_928 jc_12 rfl rfl rfl (Nat.le_of_ble_eq_true rfl) (jroom (by decide)) rfl (m_isFit hC.1 (hP.nr NR.rf) hl (by omega) (by omega) (fun w49 Y49 hP49 => ?_) (fun w49 Y49 hP49 => ?_))
      · dsimp only [jpush]
        refine e_if_ne 55 58 dX12_fits_52 (by decide) (by decide) rfl (fun _ => ?_) (fun h => absurd h (by decide))
        refine e_iload_n (i := 3) 59 dX12_fits_58 rfl rfl rfl ?_
        refine e_iload_n (i := 2) 60 dX12_fits_59 rfl rfl rfl ?_
        refine e_icmp_ne 63 66 dX12_fits_60 (by omega) (by omega) (by decide) rfl (fun b60 => ?_) (fun b60 => ?_)
        · skip
          refine e_iinc (lsn := [(3, _), (0, _), (1, _), (2, _), (4, _)]) 69 dX12_fits_66 rfl (by decide) rfl rfl ?_
          refine e_iinc (lsn := [(4, _), (3, _), (0, _), (1, _), (2, _)]) 72 dX12_fits_69 rfl (by decide) rfl rfl ?_
          refine e_goto 32 dX12_fits_72 (by decide) ?_
          refine e_ls (ls2 := [(0, _), (1, _), (2, _), (3, _), (4, _)]) rfl ?_
          rw [if_pos w49, if_neg (by omega)] at h
          exact ih _ _ _ (by omega) (by omega) (by omega) (hP.tr hP49) h
        · skip
          refine e_iload 65 dX12_fits_63 rfl rfl ?_
          refine e_iret dX12_fits_65 ?_
          rw [if_pos w49, if_pos (by omega)] at h
          exact h _ (hP.tr hP49)
      · dsimp only [jpush]
        refine e_if_ne 55 58 dX12_fits_52 (by decide) (by decide) rfl (fun h => absurd h (by decide)) (fun _ => ?_)
        refine e_goto 69 dX12_fits_55 (by decide) ?_
        refine e_iinc (lsn := [(4, _), (0, _), (1, _), (2, _), (3, _)]) 72 dX12_fits_69 rfl (by decide) rfl rfl ?_
        refine e_goto 32 dX12_fits_72 (by decide) ?_
        refine e_ls (ls2 := [(0, _), (1, _), (2, _), (3, _), (4, _)]) rfl ?_
        rw [if_neg (by rw [w49]; decide)] at h
        exact ih _ _ _ (by omega) (by omega) (by omega) (hP.tr hP49) h

theorem m_fits {look k : Int} {M : jM} {Q : Int → jM → Prop} (hC : CR M) (ht : M 928 0 = 0) (hll : -2147483648 ≤ look ∧ look ≤ 2147483647) (hk : -2147483648 ≤ k ∧ k ≤ 2147483647) (h2 : look < 0 ∨ M 929 65 ≤ look → Q (-2) M) (h : 0 ≤ look ∧ look < M 929 65 → ∀ Z : jM, P9 M Z → Q (rFits (M 929) look k (M 929 709).toNat 0 0) Z) : jCt yX12_fits cX12_fits 5 (some .int) 4 [jR 928, jI look, jI k] M Q := by
  refine jCt_of mt_yX12_fits (Nat.le_of_ble_eq_true rfl) (fun X => ?_)
  have hg := hC.rng
  have hl65 := hC.lkr.1
  refine e_aload_n (i := 0) 1 dX12_fits_0 rfl rfl rfl ?_
  refine e_iconst 2 dX12_fits_1 rfl ?_
  refine e_put0 (j := 0) 5 fl_12_1 dX12_fits_2 at_928 rfl rfl rfl (by decide) ht rfl ?_
  refine e_iload_n (i := 1) 6 dX12_fits_5 rfl rfl rfl ?_
  refine e_i2l 7 dX12_fits_6 (by omega) rfl ?_
  refine e_lconst0 8 dX12_fits_7 rfl ?_
  refine e_aload_n (i := 0) 9 dX12_fits_8 rfl rfl rfl ?_
  refine e_getr (j := 1) 12 fl_12_13 dX12_fits_9 at_928 rfl rfl tp_928_1 rfl ?_
  refine e_bipush 14 dX12_fits_12 (by decide) rfl ?_
  refine e_iald 15 dX12_fits_14 ar_929 (by decide) (by decide) rfl (fun r14 => ?_)
  refine e_iconst 16 dX12_fits_15 rfl ?_
  refine e_isub 17 dX12_fits_16 rfl ?_
  refine e_i2l 18 dX12_fits_17 (by omega) rfl ?_
  refine e_callS 21 mt_yX12_within ms_yX12_within wd_1390 (by decide) dX12_fits_18 rfl rfl (Nat.le_of_ble_eq_true rfl) (jroom (by decide)) rfl (m_within (by omega) (by omega) (by omega) (fun w18 => ?_) (fun w18 => ?_))
  · dsimp only [jpush]
    refine e_if_ne 24 27 dX12_fits_21 (by decide) (by decide) rfl (fun _ => ?_) (fun h => absurd h (by decide))
    refine e_iconst 28 dX12_fits_27 rfl ?_
    refine e_istore_n (i := 3) (lsn := [(3, _), (0, _), (1, _), (2, _)]) 29 dX12_fits_28 rfl (by decide) rfl rfl ?_
    refine e_iconst 30 dX12_fits_29 rfl ?_
    refine e_istore (lsn := [(4, _), (3, _), (0, _), (1, _), (2, _)]) 32 dX12_fits_30 (by decide) rfl rfl ?_
    refine e_ls (ls2 := [(0, _), (1, _), (2, _), (3, _), (4, _)]) rfl ?_
    exact lm_fits hC (by omega) hk (M 929 709).toNat 0 0 M (by omega) (by omega) (by omega) (fun _ _ _ => rfl) (h (by omega))
  · dsimp only [jpush]
    refine e_if_ne 24 27 dX12_fits_21 (by decide) (by decide) rfl (fun h => absurd h (by decide)) (fun _ => ?_)
    refine e_bipush 26 dX12_fits_24 (by decide) rfl ?_
    refine e_iret dX12_fits_26 ?_
    exact h2 (by omega)

theorem p_fits {M : jM} (hI : Inv M) {look : Int} (hlook : -2147483648 ≤ look ∧ look ≤ 2147483647) {k : Int} (hk : -2147483648 ≤ k ∧ k ≤ 2147483647) : jCt yX11_fits cX11_fits 5 (some .int) 4 [jR 0, jI look, jI k] M (fun z M1 => jCt yX12_fits cX12_fits 5 (some .int) 4 [jR 928, jI look, jI k] M1 (fun z2 M2 => z = z2 ∧ Inv M2)) := by
  have hC := hI.cr
  refine c_fits hC hlook hk (fun w => ?_) (fun w => ?_)
  · exact m_fits hC hI.1 hlook hk (fun _ => ⟨rfl, hI⟩) (fun w2 => by omega)
  · exact m_fits hC hI.1 hlook hk (fun w2 => by omega) (fun _ Z hZ => ⟨rfl, hI.scr hZ.scr⟩)

def nHold (a : Int → Int) (look : Int) : Nat → Int
  | 0 => 0
  | n + 1 => if fitV a look n = true then nHold a look n + 1 else nHold a look n
def cHold (M : jM) (look n : Int) : jM := fun k j => if (84 ≤ k ∧ k < 84 + n ∧ j = 7) ∧ fitV (M 929) look (k - 84) = true then max (M k 7) (M 929 708 + M 929 30) else M k j
def rHold (M : jM) (look n : Int) : jM := fun k j => if (k = 929 ∧ 1070 ≤ j ∧ j < 1070 + n) ∧ fitV (M 929) look (j - 1070) = true then max (M 929 j) (M 929 708 + M 929 30) else M k j
theorem cHold_nh {M : jM} {look n : Int} (hn : n ≤ 60) : NH M (cHold M look n) := fun k j h => by
  unfold cHold
  rw [if_neg (fun q => by omega)]
theorem cHold_0 {M : jM} {look : Int} : cHold M look 0 = M := by
  funext k j
  exact if_neg (fun q => by omega)
theorem cHold_s1 {M : jM} {look : Int} {n : Int} (h0 : 0 ≤ n) (h : fitV (M 929) look n = true) : jset (cHold M look n) (84 + n) 7 (max (M (84 + n) 7) (M 929 708 + M 929 30)) = cHold M look (n + 1) := by
  funext k j
  unfold jset cHold
  by_cases e : k = 84 + n ∧ j = 7
  · rw [if_pos e, if_pos ⟨by omega, by rw [show k - 84 = n by omega]; exact h⟩, e.1]
  · rw [if_neg e]
    by_cases e2 : (84 ≤ k ∧ k < 84 + n ∧ j = 7) ∧ fitV (M 929) look (k - 84) = true
    · rw [if_pos e2, if_pos ⟨by omega, e2.2⟩]
    · rw [if_neg e2, if_neg (fun q => e2 ⟨by omega, q.2⟩)]
theorem cHold_s0 {M : jM} {look : Int} {n : Int} (h : fitV (M 929) look n = false) : cHold M look n = cHold M look (n + 1) := by
  funext k j
  unfold cHold
  by_cases e2 : (84 ≤ k ∧ k < 84 + n ∧ j = 7) ∧ fitV (M 929) look (k - 84) = true
  · rw [if_pos e2, if_pos ⟨by omega, e2.2⟩]
  · rw [if_neg e2, if_neg (fun q => e2 ⟨by
      by_cases e : k = 84 + n
      · rw [show k - 84 = n by omega, h] at q
        exact absurd q.2 (by decide)
      · omega, q.2⟩)]
theorem rHold_s1 {M : jM} {look : Int} {n : Int} (h0 : 0 ≤ n) (h : fitV (M 929) look n = true) : jset (rHold M look n) 929 (1070 + n) (max (M 929 (1070 + n)) (M 929 708 + M 929 30)) = rHold M look (n + 1) := by
  funext k j
  unfold jset rHold
  by_cases e : k = 929 ∧ j = 1070 + n
  · rw [if_pos e, if_pos ⟨by omega, by rw [show j - 1070 = n by omega]; exact h⟩, e.2]
  · rw [if_neg e]
    by_cases e2 : (k = 929 ∧ 1070 ≤ j ∧ j < 1070 + n) ∧ fitV (M 929) look (j - 1070) = true
    · rw [if_pos e2, if_pos ⟨by omega, e2.2⟩]
    · rw [if_neg e2, if_neg (fun q => e2 ⟨by omega, q.2⟩)]
theorem rHold_s0 {M : jM} {look : Int} {n : Int} (h : fitV (M 929) look n = false) : rHold M look n = rHold M look (n + 1) := by
  funext k j
  unfold rHold
  by_cases e2 : (k = 929 ∧ 1070 ≤ j ∧ j < 1070 + n) ∧ fitV (M 929) look (j - 1070) = true
  · rw [if_pos e2, if_pos ⟨by omega, e2.2⟩]
  · rw [if_neg e2, if_neg (fun q => e2 ⟨by
      by_cases e : j = 1070 + n
      · rw [show j - 1070 = n by omega, h] at q
        exact absurd q.2 (by decide)
      · omega, q.2⟩)]
theorem l_hold {X : jX} {look : Int} {M : jM} {Q : Int → jM → Prop} (hC : CR M) (hl : 0 ≤ look ∧ look < M 929 65) (h : Q (nHold (M 929) look (M 929 709).toNat) (cHold M look (M 929 709))) : ∀ (n i : Nat), (i : Int) + n = M 929 709 → ∀ ii c : Int, ii = i → c = nHold (M 929) look i → jE X yX11_hold cX11_hold 5 (some .int) 4 Q (cHold M look ii) 27 [(0, jR 0), (1, jI look), (2, jI c), (3, jI ii)] [] := by
  have hn := hC.cnt
  have hg := hC.rng
  have hu := hC.rule
  intro n
  induction n with
  | zero =>
    intro i hi ii c hii hc
    have e7 : cHold M look ii 1 10 = M 1 10 := cHold_nh (by omega) _ _ (by omega)
    have e : (M 929 709).toNat = i := by omega
    rw [e, ← hc, show M 929 709 = ii by omega] at h
    refine e_iload_n (i := 3) 28 dX11_hold_27 rfl rfl rfl ?_
    refine e_aload_n (i := 0) 29 dX11_hold_28 rfl rfl rfl ?_
    refine e_getr (j := 0) 32 fl_11_10 dX11_hold_29 at_0 rfl rfl tp_0_0 rfl ?_
    refine e_geti (j := 10) 35 fl_11_271 dX11_hold_32 at_1 (by decide) rfl rfl (fun r32 => ?_)
    refine e_icmp_ge 38 103 dX11_hold_35 (by omega) (by omega) (by decide) rfl (fun b35 => ?_) (fun b35 => ?_)
    · skip
      refine e_iload_n (i := 2) 104 dX11_hold_103 rfl rfl rfl ?_
      refine e_iret dX11_hold_104 ?_
      exact h
    · omega
  | succ n ih =>
    intro i hi ii c hii hc
    have hNH := cHold_nh (M := M) (look := look) (n := ii) (by omega)
    have e7 : cHold M look ii 1 10 = M 1 10 := hNH _ _ (by omega)
    have e4 : cHold M look ii 1 4 = M 929 708 := by rw [hNH _ _ (by omega)]; omega
    have e5 : cHold M look ii 6 5 = M 929 30 := by rw [hNH _ _ (by omega)]; omega
    have e8 : cHold M look ii (84 + ii) 7 = M (84 + ii) 7 := if_neg (fun q => by omega)
    refine e_iload_n (i := 3) 28 dX11_hold_27 rfl rfl rfl ?_
    refine e_aload_n (i := 0) 29 dX11_hold_28 rfl rfl rfl ?_
    refine e_getr (j := 0) 32 fl_11_10 dX11_hold_29 at_0 rfl rfl tp_0_0 rfl ?_
    refine e_geti (j := 10) 35 fl_11_271 dX11_hold_32 at_1 (by decide) rfl rfl (fun r32 => ?_)
    refine e_icmp_ge 38 103 dX11_hold_35 (by omega) (by omega) (by decide) rfl (fun b35 => ?_) (fun b35 => ?_)
    · omega
    · skip
      refine e_aload_n (i := 0) 39 dX11_hold_38 rfl rfl rfl ?_
      refine e_getr (j := 0) 42 fl_11_10 dX11_hold_39 at_0 rfl rfl tp_0_0 rfl ?_
      refine e_iload_n (i := 1) 43 dX11_hold_42 rfl rfl rfl ?_
      refine e_iload_n (i := 3) 44 dX11_hold_43 rfl rfl rfl ?_
      refine e_callV 47 mt_yX8_fitsLook mv_yX8_fitsLook wd_1057 (by decide) dX11_hold_44 at_1 jc_8 rfl rfl rfl (Nat.le_of_ble_eq_true rfl) (jroom (by decide)) rfl (c_fitsLook hC (cHold_nh (by omega)) hl (by omega) (by omega) (fun w44 => ?_) (fun w44 => ?_))
      · dsimp only [jpush]
        refine e_if_eq 50 97 dX11_hold_47 (by decide) (by decide) rfl (fun h => absurd h (by decide)) (fun _ => ?_)
        refine e_aload_n (i := 0) 51 dX11_hold_50 rfl rfl rfl ?_
        refine e_getr (j := 0) 54 fl_11_10 dX11_hold_51 at_0 rfl rfl tp_0_0 rfl ?_
        refine e_getr (j := 9) 57 fl_11_200 dX11_hold_54 at_1 rfl rfl tp_1_9 rfl ?_
        refine e_iload_n (i := 3) 58 dX11_hold_57 rfl rfl rfl ?_
        refine e_aald 59 dX11_hold_58 ar_18 (by decide) (by omega) (by omega) (tp_pledge (by omega) (by omega)) rfl ?_
        refine e_astore (lsn := [(4, _), (0, _), (1, _), (2, _), (3, _)]) 61 dX11_hold_59 (by decide) rfl rfl ?_
        refine e_aload 63 dX11_hold_61 rfl rfl ?_
        refine e_aload 65 dX11_hold_63 rfl rfl ?_
        refine e_geti (j := 7) 68 fl_11_372 dX11_hold_65 (at_pledge (by omega) (by omega)) (by decide) rfl rfl (fun r65 => ?_)
        refine e_aload_n (i := 0) 69 dX11_hold_68 rfl rfl rfl ?_
        refine e_getr (j := 0) 72 fl_11_10 dX11_hold_69 at_0 rfl rfl tp_0_0 rfl ?_
        refine e_geti (j := 4) 75 fl_11_174 dX11_hold_72 at_1 (by decide) rfl rfl (fun r72 => ?_)
        refine e_aload_n (i := 0) 76 dX11_hold_75 rfl rfl rfl ?_
        refine e_getr (j := 0) 79 fl_11_10 dX11_hold_76 at_0 rfl rfl tp_0_0 rfl ?_
        refine e_getr (j := 0) 82 fl_11_73 dX11_hold_79 at_1 rfl rfl tp_1_0 rfl ?_
        refine e_getr (j := 4) 85 fl_11_225 dX11_hold_82 at_2 rfl rfl tp_2_4 rfl ?_
        refine e_iconst 86 dX11_hold_85 rfl ?_
        refine e_iald 87 dX11_hold_86 ar_6 (by decide) (by decide) rfl (fun r86 => ?_)
        refine e_iadd 88 dX11_hold_87 rfl ?_
        refine e_maxI 91 wd_893 dX11_hold_88 (by omega) (by omega) (Nat.le_of_ble_eq_true rfl) (jroom (by decide)) rfl ?_
        rw [e8, e4, e5]
        refine e_puti (j := 7) 94 fl_11_372 dX11_hold_91 (at_pledge (by omega) (by omega)) rfl rfl rfl (by omega) rfl ?_
        refine e_iinc (lsn := [(2, _), (4, _), (0, _), (1, _), (3, _)]) 97 dX11_hold_94 rfl (by decide) rfl rfl ?_
        refine e_iinc (lsn := [(3, _), (2, _), (4, _), (0, _), (1, _)]) 100 dX11_hold_97 rfl (by decide) rfl rfl ?_
        refine e_goto 27 dX11_hold_100 (by decide) ?_
        refine e_ls (ls2 := [(0, _), (1, _), (2, _), (3, _)]) rfl ?_
        rw [cHold_s1 (by omega) w44]
        exact ih (i + 1) (by omega) _ _ (by omega) (by rw [nHold, if_pos (by rw [← hii]; exact w44), hc])
      · dsimp only [jpush]
        refine e_if_eq 50 97 dX11_hold_47 (by decide) (by decide) rfl (fun _ => ?_) (fun h => absurd h (by decide))
        refine e_iinc (lsn := [(3, _), (0, _), (1, _), (2, _)]) 100 dX11_hold_97 rfl (by decide) rfl rfl ?_
        refine e_goto 27 dX11_hold_100 (by decide) ?_
        refine e_ls (ls2 := [(0, _), (1, _), (2, _), (3, _)]) rfl ?_
        rw [cHold_s0 w44]
        exact ih (i + 1) (by omega) _ _ (by omega) (by rw [nHold, if_neg (by rw [← hii, w44]; decide)]; exact hc)

theorem c_hold {look : Int} {M : jM} {Q : Int → jM → Prop} (hC : CR M) (hll : -2147483648 ≤ look ∧ look ≤ 2147483647) (h2 : look < 0 ∨ M 929 65 ≤ look → Q (-2) M) (h : 0 ≤ look ∧ look < M 929 65 → Q (nHold (M 929) look (M 929 709).toNat) (cHold M look (M 929 709))) : jCt yX11_hold cX11_hold 5 (some .int) 4 [jR 0, jI look] M Q := by
  refine jCt_of mt_yX11_hold (Nat.le_of_ble_eq_true rfl) (fun X => ?_)
  have hg := hC.rng
  have hlk := hC.look
  have hl65 := hC.lkr.1
  refine e_iload_n (i := 1) 1 dX11_hold_0 rfl rfl rfl ?_
  refine e_iconst 2 dX11_hold_1 rfl ?_
  refine e_aload_n (i := 0) 3 dX11_hold_2 rfl rfl rfl ?_
  refine e_getr (j := 0) 6 fl_11_10 dX11_hold_3 at_0 rfl rfl tp_0_0 rfl ?_
  refine e_getr (j := 3) 9 fl_11_87 dX11_hold_6 at_1 rfl rfl tp_1_3 rfl ?_
  refine e_geti (j := 0) 12 fl_11_97 dX11_hold_9 at_12 (by decide) rfl rfl (fun r9 => ?_)
  refine e_iconst 13 dX11_hold_12 rfl ?_
  refine e_isub 14 dX11_hold_13 rfl ?_
  refine e_callS 17 mt_yX11_within ms_yX11_within wd_531 (by decide) dX11_hold_14 rfl rfl (Nat.le_of_ble_eq_true rfl) (jroom (by decide)) rfl (c_within (by omega) (by omega) (by omega) (fun w14 => ?_) (fun w14 => ?_))
  · dsimp only [jpush]
    refine e_if_ne 20 23 dX11_hold_17 (by decide) (by decide) rfl (fun _ => ?_) (fun h => absurd h (by decide))
    refine e_iconst 24 dX11_hold_23 rfl ?_
    refine e_istore_n (i := 2) (lsn := [(2, _), (0, _), (1, _)]) 25 dX11_hold_24 rfl (by decide) rfl rfl ?_
    refine e_iconst 26 dX11_hold_25 rfl ?_
    refine e_istore_n (i := 3) (lsn := [(3, _), (2, _), (0, _), (1, _)]) 27 dX11_hold_26 rfl (by decide) rfl rfl ?_
    refine e_ls (ls2 := [(0, _), (1, _), (2, _), (3, _)]) rfl ?_
    refine Eq.subst (motive := fun x => jE X yX11_hold cX11_hold 5 (some .int) 4 Q x 27 [(0, jR 0), (1, jI look), (2, jI 0), (3, jI 0)] []) cHold_0 (l_hold hC (by omega) (h (by omega)) (M 929 709).toNat 0 (by omega) 0 0 rfl rfl)
  · dsimp only [jpush]
    refine e_if_ne 20 23 dX11_hold_17 (by decide) (by decide) rfl (fun h => absurd h (by decide)) (fun _ => ?_)
    refine e_bipush 22 dX11_hold_20 (by decide) rfl ?_
    refine e_iret dX11_hold_22 ?_
    exact h2 (by omega)

def HR (M Z : jM) (look n : Int) : Prop := ∀ k j, k ≠ 940 → Z k j = rHold M look n k j
theorem lm_hold {X : jX} {look : Int} {M : jM} {Q : Int → jM → Prop} (hR : RInv (M 929)) (hl : 0 ≤ look ∧ look < M 929 65) (h : ∀ Z : jM, HR M Z look (M 929 709) → Q (nHold (M 929) look (M 929 709).toNat) Z) : ∀ (n i : Nat), (i : Int) + n = M 929 709 → ∀ (Y : jM) (ii c : Int), ii = i → c = nHold (M 929) look i → HR M Y look ii → jE X yX12_hold cX12_hold 5 (some .int) 4 Q Y 49 [(0, jR 928), (1, jI look), (2, jI c), (3, jI (M 929 708 + M 929 30)), (4, jI ii)] [] := by
  have hg := hR.1
  have hrl := hR.2.1.2.2.2.2.2.2.2.2
  unfold RCnt at hg
  intro n
  induction n with
  | zero =>
    intro i hi Y ii c hii hc hH
    have h0i : 0 ≤ ii := by omega
    have r0 : ∀ j, (j < 1070 ∨ 1070 + ii ≤ j) → Y 929 j = M 929 j := fun j q => by
      rw [hH _ _ (by omega)]
      exact if_neg (fun z => by omega)
    have e7 : Y 929 709 = M 929 709 := r0 _ (by omega)
    have hNR : NR M Y := fun k j a b => by
      rw [hH _ _ (by omega)]
      exact if_neg (fun z => by omega)
    have e : (M 929 709).toNat = i := by omega
    rw [e, ← hc, show M 929 709 = ii by omega] at h
    refine e_iload 51 dX12_hold_49 rfl rfl ?_
    refine e_aload_n (i := 0) 52 dX12_hold_51 rfl rfl rfl ?_
    refine e_getr (j := 1) 55 fl_12_13 dX12_hold_52 at_928 rfl rfl tp_928_1 rfl ?_
    refine e_sipush 58 dX12_hold_55 (by decide) rfl ?_
    refine e_iald 59 dX12_hold_58 ar_929 (by decide) (by decide) rfl (fun r58 => ?_)
    refine e_icmp_ge 62 125 dX12_hold_59 (by omega) (by omega) (by decide) rfl (fun b59 => ?_) (fun b59 => ?_)
    · skip
      refine e_iload_n (i := 2) 126 dX12_hold_125 rfl rfl rfl ?_
      refine e_iret dX12_hold_126 ?_
      exact h Y hH
    · omega
  | succ n ih =>
    intro i hi Y ii c hii hc hH
    have h0i : 0 ≤ ii := by omega
    have r0 : ∀ j, (j < 1070 ∨ 1070 + ii ≤ j) → Y 929 j = M 929 j := fun j q => by
      rw [hH _ _ (by omega)]
      exact if_neg (fun z => by omega)
    have e7 : Y 929 709 = M 929 709 := r0 _ (by omega)
    have hNR : NR M Y := fun k j a b => by
      rw [hH _ _ (by omega)]
      exact if_neg (fun z => by omega)
    refine e_iload 51 dX12_hold_49 rfl rfl ?_
    refine e_aload_n (i := 0) 52 dX12_hold_51 rfl rfl rfl ?_
    refine e_getr (j := 1) 55 fl_12_13 dX12_hold_52 at_928 rfl rfl tp_928_1 rfl ?_
    refine e_sipush 58 dX12_hold_55 (by decide) rfl ?_
    refine e_iald 59 dX12_hold_58 ar_929 (by decide) (by decide) rfl (fun r58 => ?_)
    refine e_icmp_ge 62 125 dX12_hold_59 (by omega) (by omega) (by decide) rfl (fun b59 => ?_) (fun b59 => ?_)
    · omega
    · skip
      refine e_aload_n (i := 0) 63 dX12_hold_62 rfl rfl rfl ?_
      refine e_iload_n (i := 1) 64 dX12_hold_63 rfl rfl rfl ?_
      refine e_iload 66 dX12_hold_64 rfl rfl ?_
      refine e_callV 69 mt_yX12_isFit mv_yX12_isFit wd_1700 (by decide) dX12_hold_66 at_928 jc_12 rfl rfl rfl (Nat.le_of_ble_eq_true rfl) (jroom (by decide)) rfl (m_isFit hR hNR hl (by omega) (by omega) (fun w66 Y66 hP66 => ?_) (fun w66 Y66 hP66 => ?_))
      · dsimp only [jpush]
        refine e_if_ne 72 75 dX12_hold_69 (by decide) (by decide) rfl (fun _ => ?_) (fun h => absurd h (by decide))
        have x1 : Y66 929 (1070 + ii) = M 929 (1070 + ii) := by rw [hP66 _ _ (by omega)]; exact r0 _ (by omega)
        have hq : 0 ≤ M 929 (0 + 30) ∧ M 929 (0 + 30) ≤ 52 := hrl
        rw [show (0 : Int) + 30 = 30 by omega] at hq
        refine e_aload_n (i := 0) 76 dX12_hold_75 rfl rfl rfl ?_
        refine e_getr (j := 1) 79 fl_12_13 dX12_hold_76 at_928 rfl rfl tp_928_1 rfl ?_
        refine e_sipush 82 dX12_hold_79 (by decide) rfl ?_
        refine e_iload 84 dX12_hold_82 rfl rfl ?_
        refine e_iadd 85 dX12_hold_84 rfl ?_
        refine e_iload_n (i := 3) 86 dX12_hold_85 rfl rfl rfl ?_
        refine e_aload_n (i := 0) 87 dX12_hold_86 rfl rfl rfl ?_
        refine e_getr (j := 1) 90 fl_12_13 dX12_hold_87 at_928 rfl rfl tp_928_1 rfl ?_
        refine e_sipush 93 dX12_hold_90 (by decide) rfl ?_
        refine e_iload 95 dX12_hold_93 rfl rfl ?_
        refine e_iadd 96 dX12_hold_95 rfl ?_
        refine e_iald 97 dX12_hold_96 ar_929 (by omega) (by omega) rfl (fun r96 => ?_)
        refine e_icmp_le 100 104 dX12_hold_97 (by omega) (by omega) (by decide) rfl (fun b97 => ?_) (fun b97 => ?_)
        · skip
          refine e_aload_n (i := 0) 105 dX12_hold_104 rfl rfl rfl ?_
          refine e_getr (j := 1) 108 fl_12_13 dX12_hold_105 at_928 rfl rfl tp_928_1 rfl ?_
          refine e_sipush 111 dX12_hold_108 (by decide) rfl ?_
          refine e_iload 113 dX12_hold_111 rfl rfl ?_
          refine e_iadd 114 dX12_hold_113 rfl ?_
          refine e_iald 115 dX12_hold_114 ar_929 (by omega) (by omega) rfl (fun r114 => ?_)
          refine e_iast 116 dX12_hold_115 ar_929 (by omega) (by omega) (by omega) rfl ?_
          refine e_iinc (lsn := [(2, _), (0, _), (1, _), (3, _), (4, _)]) 119 dX12_hold_116 rfl (by decide) rfl rfl ?_
          refine e_iinc (lsn := [(4, _), (2, _), (0, _), (1, _), (3, _)]) 122 dX12_hold_119 rfl (by decide) rfl rfl ?_
          refine e_goto 49 dX12_hold_122 (by decide) ?_
          refine e_ls (ls2 := [(0, _), (1, _), (2, _), (3, _), (4, _)]) rfl ?_
          refine ih (i + 1) (by omega) _ _ _ (by omega) (by rw [nHold, if_pos (by rw [← hii]; exact w66), hc]) (fun k j q => ?_)
          rw [← rHold_s1 h0i w66]
          unfold jset
          by_cases e : k = 929 ∧ j = 1070 + ii
          · rw [if_pos e, if_pos e]
            omega
          · rw [if_neg e, if_neg e, hP66 k j q, hH k j q]
        · skip
          refine e_iload_n (i := 3) 101 dX12_hold_100 rfl rfl rfl ?_
          refine e_goto 115 dX12_hold_101 (by decide) ?_
          refine e_iast 116 dX12_hold_115 ar_929 (by omega) (by omega) (by omega) rfl ?_
          refine e_iinc (lsn := [(2, _), (0, _), (1, _), (3, _), (4, _)]) 119 dX12_hold_116 rfl (by decide) rfl rfl ?_
          refine e_iinc (lsn := [(4, _), (2, _), (0, _), (1, _), (3, _)]) 122 dX12_hold_119 rfl (by decide) rfl rfl ?_
          refine e_goto 49 dX12_hold_122 (by decide) ?_
          refine e_ls (ls2 := [(0, _), (1, _), (2, _), (3, _), (4, _)]) rfl ?_
          refine ih (i + 1) (by omega) _ _ _ (by omega) (by rw [nHold, if_pos (by rw [← hii]; exact w66), hc]) (fun k j q => ?_)
          rw [← rHold_s1 h0i w66]
          unfold jset
          by_cases e : k = 929 ∧ j = 1070 + ii
          · rw [if_pos e, if_pos e]
            omega
          · rw [if_neg e, if_neg e, hP66 k j q, hH k j q]
      · dsimp only [jpush]
        refine e_if_ne 72 75 dX12_hold_69 (by decide) (by decide) rfl (fun h => absurd h (by decide)) (fun _ => ?_)
        refine e_goto 119 dX12_hold_72 (by decide) ?_
        refine e_iinc (lsn := [(4, _), (0, _), (1, _), (2, _), (3, _)]) 122 dX12_hold_119 rfl (by decide) rfl rfl ?_
        refine e_goto 49 dX12_hold_122 (by decide) ?_
        refine e_ls (ls2 := [(0, _), (1, _), (2, _), (3, _), (4, _)]) rfl ?_
        refine ih (i + 1) (by omega) Y66 _ _ (by omega) (by rw [nHold, if_neg (by rw [← hii, w66]; decide)]; exact hc) (fun k j q => ?_)
        rw [hP66 k j q, hH k j q, rHold_s0 w66]

theorem m_hold {look : Int} {M : jM} {Q : Int → jM → Prop} (hR : RInv (M 929)) (ht : M 928 0 = 0) (hll : -2147483648 ≤ look ∧ look ≤ 2147483647) (h2 : look < 0 ∨ M 929 65 ≤ look → Q (-2) M) (h : 0 ≤ look ∧ look < M 929 65 → ∀ Z : jM, HR M Z look (M 929 709) → Q (nHold (M 929) look (M 929 709).toNat) Z) : jCt yX12_hold cX12_hold 5 (some .int) 4 [jR 928, jI look] M Q := by
  refine jCt_of mt_yX12_hold (Nat.le_of_ble_eq_true rfl) (fun X => ?_)
  have hg := hR.1
  have hl65 := hR.2.2.2.2.2.2.2.2.2.2.1
  unfold RCnt at hg
  refine e_aload_n (i := 0) 1 dX12_hold_0 rfl rfl rfl ?_
  refine e_iconst 2 dX12_hold_1 rfl ?_
  refine e_put0 (j := 0) 5 fl_12_1 dX12_hold_2 at_928 rfl rfl rfl (by decide) ht rfl ?_
  refine e_iload_n (i := 1) 6 dX12_hold_5 rfl rfl rfl ?_
  refine e_i2l 7 dX12_hold_6 (by omega) rfl ?_
  refine e_lconst0 8 dX12_hold_7 rfl ?_
  refine e_aload_n (i := 0) 9 dX12_hold_8 rfl rfl rfl ?_
  refine e_getr (j := 1) 12 fl_12_13 dX12_hold_9 at_928 rfl rfl tp_928_1 rfl ?_
  refine e_bipush 14 dX12_hold_12 (by decide) rfl ?_
  refine e_iald 15 dX12_hold_14 ar_929 (by decide) (by decide) rfl (fun r14 => ?_)
  refine e_iconst 16 dX12_hold_15 rfl ?_
  refine e_isub 17 dX12_hold_16 rfl ?_
  refine e_i2l 18 dX12_hold_17 (by omega) rfl ?_
  refine e_callS 21 mt_yX12_within ms_yX12_within wd_1390 (by decide) dX12_hold_18 rfl rfl (Nat.le_of_ble_eq_true rfl) (jroom (by decide)) rfl (m_within (by omega) (by omega) (by omega) (fun w18 => ?_) (fun w18 => ?_))
  · dsimp only [jpush]
    refine e_if_ne 24 27 dX12_hold_21 (by decide) (by decide) rfl (fun _ => ?_) (fun h => absurd h (by decide))
    refine e_iconst 28 dX12_hold_27 rfl ?_
    refine e_istore_n (i := 2) (lsn := [(2, _), (0, _), (1, _)]) 29 dX12_hold_28 rfl (by decide) rfl rfl ?_
    refine e_aload_n (i := 0) 30 dX12_hold_29 rfl rfl rfl ?_
    refine e_getr (j := 1) 33 fl_12_13 dX12_hold_30 at_928 rfl rfl tp_928_1 rfl ?_
    refine e_sipush 36 dX12_hold_33 (by decide) rfl ?_
    refine e_iald 37 dX12_hold_36 ar_929 (by decide) (by decide) rfl (fun r36 => ?_)
    refine e_aload_n (i := 0) 38 dX12_hold_37 rfl rfl rfl ?_
    refine e_getr (j := 1) 41 fl_12_13 dX12_hold_38 at_928 rfl rfl tp_928_1 rfl ?_
    refine e_bipush 43 dX12_hold_41 (by decide) rfl ?_
    refine e_iald 44 dX12_hold_43 ar_929 (by decide) (by decide) rfl (fun r43 => ?_)
    refine e_iadd 45 dX12_hold_44 rfl ?_
    refine e_istore_n (i := 3) (lsn := [(3, _), (2, _), (0, _), (1, _)]) 46 dX12_hold_45 rfl (by decide) rfl rfl ?_
    refine e_iconst 47 dX12_hold_46 rfl ?_
    refine e_istore (lsn := [(4, _), (3, _), (2, _), (0, _), (1, _)]) 49 dX12_hold_47 (by decide) rfl rfl ?_
    refine e_ls (ls2 := [(0, _), (1, _), (2, _), (3, _), (4, _)]) rfl ?_
    exact lm_hold hR (by omega) (h (by omega)) (M 929 709).toNat 0 (by omega) M 0 0 rfl rfl (fun k j _ => (if_neg (fun z => by omega)).symm)
  · dsimp only [jpush]
    refine e_if_ne 24 27 dX12_hold_21 (by decide) (by decide) rfl (fun h => absurd h (by decide)) (fun _ => ?_)
    refine e_bipush 26 dX12_hold_24 (by decide) rfl ?_
    refine e_iret dX12_hold_26 ?_
    exact h2 (by omega)

theorem p_hold {M : jM} (hI : Inv M) {look : Int} (hlook : -2147483648 ≤ look ∧ look ≤ 2147483647) : jCt yX11_hold cX11_hold 5 (some .int) 4 [jR 0, jI look] M (fun z M1 => jCt yX12_hold cX12_hold 5 (some .int) 4 [jR 928, jI look] M1 (fun z2 M2 => z = z2 ∧ Inv M2)) := by
  have hC := hI.cr
  have hn := hC.cnt
  have hg := hC.rng
  refine c_hold hC hlook (fun w => ?_) (fun w => ?_)
  · exact m_hold hC.1 hI.1 hlook (fun _ => ⟨rfl, hI⟩) (fun w2 => by omega)
  · have c1 : ∀ k j, (k < 84 ∨ 144 ≤ k ∨ j ≠ 7) → cHold M look (M 929 709) k j = M k j := cHold_nh (by omega)
    have c9 : cHold M look (M 929 709) 929 = M 929 := funext fun j => c1 929 j (by omega)
    refine m_hold (by rw [c9]; exact hC.1) (by rw [c1 _ _ (by omega)]; exact hI.1) hlook (fun w2 => by rw [c9] at w2; omega) (fun _ Z hZ => ⟨by rw [c9], ?_⟩)
    rw [c9] at hZ
    have z1 : ∀ k j, k ≠ 929 → k ≠ 940 → Z k j = cHold M look (M 929 709) k j := fun k j a b => by
      rw [hZ k j b]
      exact if_neg (fun q => a q.1.1)
    have z2 : ∀ j, (j < 1070 ∨ 1130 ≤ j) → Z 929 j = M 929 j := fun j q => by
      rw [hZ _ _ (by omega)]
      unfold rHold
      rw [if_neg (fun z => by omega), c9]
    have z3 : ∀ k j, k ≠ 929 → k ≠ 940 → (k < 84 ∨ 144 ≤ k ∨ j ≠ 7) → Z k j = M k j := fun k j a b c => by rw [z1 k j a b, c1 k j c]
    have z4 : ∀ p, 0 ≤ p → p < M 929 709 → Z (84 + p) 7 = Z 929 (1070 + p) := fun p a b => by
      have hp := hC.pl a b
      rw [z1 _ _ (by omega) (by omega), hZ _ _ (by omega)]
      unfold rHold
      rw [c9]
      unfold cHold
      by_cases e : fitV (M 929) look p = true
      · rw [if_pos ⟨by omega, by rw [show 84 + p - 84 = p by omega]; exact e⟩, if_pos ⟨by omega, by rw [show 1070 + p - 1070 = p by omega]; exact e⟩]
        omega
      · rw [if_neg (fun q => e (by have := q.2; rw [show 84 + p - 84 = p by omega] at this; exact this)), if_neg (fun q => e (by have := q.2; rw [show 1070 + p - 1070 = p by omega] at this; exact this))]
        omega
    refine hI.live (fun k j a b c d => ?_) ⟨?_, ?_, ?_, ?_, ?_, ?_, ?_, ?_, ?_, ?_, ?_⟩ ⟨?_, ?_, ?_, ?_, ?_, ?_, ?_, ?_, ?_, ?_, ?_, ?_⟩
    · by_cases e : k = 929
      · rw [e, z2 j (by omega)]
      · exact z3 k j e (by omega) (by omega)
    · exact hI.2.1.1.fr (fun i hi => z2 _ (by omega))
    · exact hI.2.1.2.1.fr (fun i a b => z2 _ (by omega))
    · exact hI.2.1.2.2.1.fr (fun i a b => z2 _ (by omega))
    · exact hI.2.1.2.2.2.1.fr (by omega) (fun i a b => z2 _ (by omega))
    · exact hI.2.1.2.2.2.2.1.fr (by omega) (fun i a b => z2 _ (by omega)) (fun i a b => z2 _ (by omega))
    · exact hI.2.1.2.2.2.2.2.1.fr (by omega) (fun i a b => z2 _ (by omega)) (fun i a b => z2 _ (by omega)) (by rw [z2 582 (by omega), z2 643 (by omega), z2 1761 (by omega)]; omega)
    · exact hI.2.1.2.2.2.2.2.2.1.fr (by omega) (z2 _ (by omega)) (fun i a b => z2 _ (by omega))
    · exact hI.2.1.2.2.2.2.2.2.2.1.fr (by omega) (fun i a b => z2 _ (by omega)) (fun i a b => z2 _ (by omega)) (by rw [z2 709 (by omega), z2 643 (by omega)]; omega)
    · exact hI.2.1.2.2.2.2.2.2.2.2.1.fr (by omega) (fun i a b => z2 _ (by omega))
    · exact hI.2.1.2.2.2.2.2.2.2.2.2.1.fr (fun i a b => z2 _ (by omega))
    · exact hI.2.1.2.2.2.2.2.2.2.2.2.2.fr (fun i a b => z2 _ (by omega))
    · exact hI.2.2.1.1.fr (fun j => z3 (1 + 0) j (by omega) (by omega) (by omega)) (fun i hi => z2 _ (by omega))
    · exact hI.2.2.1.2.1.fr hI.2.1.2.1 (by omega) (fun k j a b => z3 (1 + k) j (by omega) (by omega) (by omega)) (fun i a b => z2 _ (by omega))
    · exact hI.2.2.1.2.2.1.fr hI.2.1.2.2.1 (by omega) (fun k j a b => z3 (1 + k) j (by omega) (by omega) (by omega)) (fun i a b => z2 _ (by omega))
    · exact hI.2.2.1.2.2.2.1.fr (by omega) (fun k j a b => z3 (1 + k) j (by omega) (by omega) (by omega)) (fun i a b => z2 _ (by omega))
    · exact hI.2.2.1.2.2.2.2.1.fr (by omega) (fun k j a b => z3 (1 + k) j (by omega) (by omega) (by omega)) (fun i a b => z2 _ (by omega)) (fun i a b => z2 _ (by omega))
    · intro p h0 h1
      rw [z2 709 (by omega)] at h1
      simp only [cv1, Int.reduceAdd]
      have hp := hC.pl h0 h1
      have h4 := z4 p h0 h1
      have q := fun j (e : j ≠ 7) => z3 (84 + p) j (by omega) (by omega) (by omega)
      have r := fun x (e : x + 60 ≤ 1070 ∨ 1130 ≤ x) => z2 (x + p) (by omega)
      rw [h4, q 0 (by omega), q 1 (by omega), q 2 (by omega), q 3 (by omega), q 4 (by omega), q 5 (by omega), q 6 (by omega), q 8 (by omega), q 9 (by omega), q 10 (by omega), q 11 (by omega), q 12 (by omega), r 710 (by omega), r 770 (by omega), r 830 (by omega), r 890 (by omega), r 1130 (by omega), r 950 (by omega), r 1010 (by omega), r 1190 (by omega), r 1250 (by omega), r 3775 (by omega), r 3835 (by omega)]
      exact ⟨⟨hp.1.1, hp.1.2.1, hp.1.2.2.1, hp.1.2.2.2.1, hp.1.2.2.2.2.1, hp.1.2.2.2.2.2.1, hp.1.2.2.2.2.2.2.1, rfl⟩, hp.2⟩
    · exact hI.2.2.1.2.2.2.2.2.2.1.fr (by omega) (fun k j a b => z3 (1 + k) j (by omega) (by omega) (by omega)) (fun i a b => z2 _ (by omega)) (fun i a b => z2 _ (by omega))
    · exact hI.2.2.1.2.2.2.2.2.2.2.1.fr (by omega) (fun k j a b => z3 (1 + k) j (by omega) (by omega) (by omega)) (fun i a b => z2 _ (by omega))
    · exact hI.2.2.1.2.2.2.2.2.2.2.2.1.fr (fun k j a b => z3 (1 + k) j (by omega) (by omega) (by omega)) (fun i a b => z2 _ (by omega))
    · exact hI.2.2.1.2.2.2.2.2.2.2.2.2.1.fr (fun k j a b => z3 (1 + k) j (by omega) (by omega) (by omega)) (fun i a b => z2 _ (by omega))
    · exact hI.2.2.1.2.2.2.2.2.2.2.2.2.2.1.fr (by omega) (fun k j a b => z3 (1 + k) j (by omega) (by omega) (by omega)) (fun i a b => z2 _ (by omega))
    · exact hI.2.2.1.2.2.2.2.2.2.2.2.2.2.2.fr hI.2.1.2.2.2.2.2.2.2.2.2.2 (fun k j a b => z3 (1 + k) j (by omega) (by omega) (by omega)) (fun i a b => z2 _ (by omega))

