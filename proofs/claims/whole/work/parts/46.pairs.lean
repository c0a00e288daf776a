/-! PAIRS: write -/
def cutV (s v : Int) : Int := if s = 0 then w8 v else if s = 1 then w16 v else if s = 2 then w32 v else v
theorem w8_rng (v : Int) : -128 ≤ w8 v ∧ w8 v ≤ 127 := by unfold w8; omega
theorem w16_rng (v : Int) : -32768 ≤ w16 v ∧ w16 v ≤ 32767 := by unfold w16; omega
theorem w32_bnd (v : Int) : -2147483648 ≤ w32 v ∧ w32 v ≤ 2147483647 := by unfold w32; omega
theorem cutV_rng {s v : Int} (h : -9223372036854775808 ≤ v ∧ v ≤ 9223372036854775807) : -9223372036854775808 ≤ cutV s v ∧ cutV s v ≤ 9223372036854775807 := by
  have h1 := w8_rng v
  have h2 := w16_rng v
  have h3 := w32_bnd v
  unfold cutV
  repeat' split
  all_goals omega
theorem c_cut {r v : Int} {M : jM} {Q : Int → jM → Prop} (hr : 0 ≤ r ∧ r < 4) (hs : 0 ≤ M (895 + 2 * r) 1 ∧ M (895 + 2 * r) 1 ≤ 3) (hv : -9223372036854775808 ≤ v ∧ v ≤ 9223372036854775807) (h : Q (cutV (M (895 + 2 * r) 1) v) M) : jCt yX7_cut cX7_cut 3 (some .long) 1 [jR (895 + 2 * r), jL v] M Q := by
  refine jCt_of mt_yX7_cut (Nat.le_of_ble_eq_true rfl) (fun X => ?_)
  have hw8 := w8_rng v
  have hw16 := w16_rng v
  have hw32 := w32_bnd v
  refine e_aload_n (i := 0) 1 dX7_cut_0 rfl rfl rfl ?_
  refine e_geti (j := 1) 4 fl_7_19 dX7_cut_1 (at_row (by omega) (by omega)) (by decide) rfl rfl (fun r1 => ?_)
  refine e_tsw 46 dX7_cut_4 (by omega) (by decide) (fun c0 hc0 hz0 => ?_) (fun b4 => ?_)
  · have hcc : c0 = 0 ∨ c0 = 1 ∨ c0 = 2 := by omega
    rcases hcc with b4 | b4 | b4
    · subst b4
      refine ⟨_, 32, rfl, by decide, ?_⟩
      refine e_lload_n (i := 1) 33 dX7_cut_32 rfl rfl rfl ?_
      refine e_l2i 34 dX7_cut_33 rfl ?_
      refine e_i2b 35 dX7_cut_34 rfl ?_
      refine e_i2l 36 dX7_cut_35 (by omega) rfl ?_
      refine e_lret dX7_cut_36 ?_
      have e : cutV (M (895 + 2 * r) 1) v = w8 v := by
        unfold cutV
        rw [if_pos (by omega)]
      rw [e] at h
      exact h
    · subst b4
      refine ⟨_, 37, rfl, by decide, ?_⟩
      refine e_lload_n (i := 1) 38 dX7_cut_37 rfl rfl rfl ?_
      refine e_l2i 39 dX7_cut_38 rfl ?_
      refine e_i2s 40 dX7_cut_39 rfl ?_
      refine e_i2l 41 dX7_cut_40 (by omega) rfl ?_
      refine e_lret dX7_cut_41 ?_
      have e : cutV (M (895 + 2 * r) 1) v = w16 v := by
        unfold cutV
        rw [if_neg (by omega), if_pos (by omega)]
      rw [e] at h
      exact h
    · subst b4
      refine ⟨_, 42, rfl, by decide, ?_⟩
      refine e_lload_n (i := 1) 43 dX7_cut_42 rfl rfl rfl ?_
      refine e_l2i 44 dX7_cut_43 rfl ?_
      refine e_w32 ?_
      refine e_i2l 45 dX7_cut_44 (by omega) rfl ?_
      refine e_lret dX7_cut_45 ?_
      have e : cutV (M (895 + 2 * r) 1) v = w32 v := by
        unfold cutV
        rw [if_neg (by omega), if_neg (by omega), if_pos (by omega)]
      rw [e] at h
      exact h
  · skip
    refine e_lload_n (i := 1) 47 dX7_cut_46 rfl rfl rfl ?_
    refine e_lret dX7_cut_47 ?_
    have e : cutV (M (895 + 2 * r) 1) v = v := by
      unfold cutV
      rw [if_neg (by omega), if_neg (by omega), if_neg (by omega)]
    rw [e] at h
    exact h

theorem c_set {r i v : Int} {M : jM} {Q : Int → jM → Prop} (hr : 0 ≤ r ∧ r < 4) (hi : 0 ≤ i ∧ i < 40) (hs : 0 ≤ M (895 + 2 * r) 1 ∧ M (895 + 2 * r) 1 ≤ 3) (hv : -9223372036854775808 ≤ v ∧ v ≤ 9223372036854775807) (h : Q (cutV (M (895 + 2 * r) 1) v) (jset M (896 + 2 * r) i (cutV (M (895 + 2 * r) 1) v))) : jCt yX7_set cX7_set 4 (some .long) 2 [jR (895 + 2 * r), jI i, jL v] M Q := by
  refine jCt_of mt_yX7_set (Nat.le_of_ble_eq_true rfl) (fun X => ?_)
  have hcv := cutV_rng (s := M (895 + 2 * r) 1) hv
  refine e_aload_n (i := 0) 1 dX7_set_0 rfl rfl rfl ?_
  refine e_getr (j := 2) 4 fl_7_15 dX7_set_1 (at_row (by omega) (by omega)) rfl rfl (tp_rownum (by omega) (by omega)) rfl ?_
  refine e_iload_n (i := 1) 5 dX7_set_4 rfl rfl rfl ?_
  refine e_aload_n (i := 0) 6 dX7_set_5 rfl rfl rfl ?_
  refine e_lload_n (i := 2) 7 dX7_set_6 rfl rfl rfl ?_
  refine e_callV 10 mt_yX7_cut mv_yX7_cut wd_1214 (by decide) dX7_set_7 (at_row (by omega) (by omega)) jc_7 rfl rfl rfl (Nat.le_of_ble_eq_true rfl) (jroom (by decide)) rfl (c_cut (by omega) (by omega) (by omega) ?_)
  dsimp only [jpush]
  refine e_last 11 dX7_set_10 (ar_rownum (by omega) (by omega)) (by omega) (by omega) (by omega) rfl ?_
  refine e_aload_n (i := 0) 12 dX7_set_11 rfl rfl rfl ?_
  refine e_getr (j := 2) 15 fl_7_15 dX7_set_12 (at_row (by omega) (by omega)) rfl rfl (tp_rownum (by omega) (by omega)) rfl ?_
  refine e_iload_n (i := 1) 16 dX7_set_15 rfl rfl rfl ?_
  refine e_lald 17 dX7_set_16 (ar_rownum (by omega) (by omega)) (by omega) (by omega) rfl (fun r16 => ?_)
  simp (disch := omega) only [jset_k, jset_j, jset_same, true_and, and_true] at r16 ⊢
  refine e_lret dX7_set_17 ?_
  exact h

theorem m_cut {v s : Int} {M : jM} {Q : Int → jM → Prop} (hv : -9223372036854775808 ≤ v ∧ v ≤ 9223372036854775807) (hs : -2147483648 ≤ s ∧ s ≤ 2147483647) (h : Q (cutV s v) M) : jCt yX12_cut cX12_cut 3 (some .long) 1 [jL v, jI s] M Q := by
  refine jCt_of mt_yX12_cut (Nat.le_of_ble_eq_true rfl) (fun X => ?_)
  have hw8 := w8_rng v
  have hw16 := w16_rng v
  have hw32 := w32_bnd v
  refine e_iload_n (i := 2) 1 dX12_cut_0 rfl rfl rfl ?_
  refine e_if_ne 4 11 dX12_cut_1 (by omega) (by decide) rfl (fun b1 => ?_) (fun b1 => ?_)
  · skip
    refine e_iload_n (i := 2) 12 dX12_cut_11 rfl rfl rfl ?_
    refine e_iconst 13 dX12_cut_12 rfl ?_
    refine e_icmp_ne 16 23 dX12_cut_13 (by omega) (by decide) (by decide) rfl (fun b13 => ?_) (fun b13 => ?_)
    · skip
      refine e_iload_n (i := 2) 24 dX12_cut_23 rfl rfl rfl ?_
      refine e_iconst 25 dX12_cut_24 rfl ?_
      refine e_icmp_ne 28 34 dX12_cut_25 (by omega) (by decide) (by decide) rfl (fun b25 => ?_) (fun b25 => ?_)
      · skip
        refine e_lload_n (i := 0) 35 dX12_cut_34 rfl rfl rfl ?_
        refine e_lret dX12_cut_35 ?_
        have e : cutV (s) v = v := by
          unfold cutV
          rw [if_neg (by omega), if_neg (by omega), if_neg (by omega)]
        rw [e] at h
        exact h
      · skip
        refine e_lload_n (i := 0) 29 dX12_cut_28 rfl rfl rfl ?_
        refine e_l2i 30 dX12_cut_29 rfl ?_
        refine e_w32 ?_
        refine e_i2l 31 dX12_cut_30 (by omega) rfl ?_
        refine e_goto 35 dX12_cut_31 (by decide) ?_
        refine e_lret dX12_cut_35 ?_
        have e : cutV (s) v = w32 v := by
          unfold cutV
          rw [if_neg (by omega), if_neg (by omega), if_pos (by omega)]
        rw [e] at h
        exact h
    · skip
      refine e_lload_n (i := 0) 17 dX12_cut_16 rfl rfl rfl ?_
      refine e_l2i 18 dX12_cut_17 rfl ?_
      refine e_i2s 19 dX12_cut_18 rfl ?_
      refine e_i2l 20 dX12_cut_19 (by omega) rfl ?_
      refine e_goto 35 dX12_cut_20 (by decide) ?_
      refine e_lret dX12_cut_35 ?_
      have e : cutV (s) v = w16 v := by
        unfold cutV
        rw [if_neg (by omega), if_pos (by omega)]
      rw [e] at h
      exact h
  · skip
    refine e_lload_n (i := 0) 5 dX12_cut_4 rfl rfl rfl ?_
    refine e_l2i 6 dX12_cut_5 rfl ?_
    refine e_i2b 7 dX12_cut_6 rfl ?_
    refine e_i2l 8 dX12_cut_7 (by omega) rfl ?_
    refine e_goto 35 dX12_cut_8 (by decide) ?_
    refine e_lret dX12_cut_35 ?_
    have e : cutV (s) v = w8 v := by
      unfold cutV
      rw [if_pos (by omega)]
    rw [e] at h
    exact h

theorem p_write {M : jM} (hI : Inv M) {row : Int} (hrow : -2147483648 ≤ row ∧ row ≤ 2147483647) {i : Int} (hi : -2147483648 ≤ i ∧ i ≤ 2147483647) {v : Int} (hv : -9223372036854775808 ≤ v ∧ v ≤ 9223372036854775807) : jCt yX11_write cX11_write 5 (some .long) 3 [jR 0, jI row, jI i, jL v] M (fun z M1 => jCt yX12_write cX12_write 5 (some .long) 2 [jR 928, jI row, jI i, jL v] M1 (fun z2 M2 => z = z2 ∧ Inv M2)) := by
  have hC := hI.cr
  have hn := hC.cnt
  have hg := hC.rng
  refine jCt_of mt_yX11_write (Nat.le_of_ble_eq_true rfl) (fun X => ?_)
  refine e_iload_n (i := 1) 1 dX11_write_0 rfl rfl rfl ?_
  refine e_iconst 2 dX11_write_1 rfl ?_
  refine e_iconst 3 dX11_write_2 rfl ?_
  refine e_callS 6 mt_yX11_within ms_yX11_within wd_531 (by decide) dX11_write_3 rfl rfl (Nat.le_of_ble_eq_true rfl) (jroom (by decide)) rfl (c_within (by omega) (by omega) (by omega) (fun w3 => ?_) (fun w3 => ?_))
  · dsimp only [jpush]
    refine e_if_ne 9 13 dX11_write_6 (by decide) (by decide) rfl (fun _ => ?_) (fun h => absurd h (by decide))
    have hw := hI.2.2.2.2.2.1 row (by omega) (by omega)
    have hw2 : (M (895 + 2 * row) 0 = -1 ∧ M 946 row = -1) ∨ ((0 ≤ M 946 row ∧ M 946 row ≤ 3) ∧ (0 ≤ M 947 row ∧ M 947 row ≤ 40) ∧ M (895 + 2 * row) 0 = M 947 row ∧ M (895 + 2 * row) 1 = M 946 row) := hw.imp id (fun h => ⟨h.1, h.2.1, h.2.2.1, h.2.2.2.1⟩)
    have hcr := cutV_rng (s := M 946 row) hv
    refine e_aload_n (i := 0) 14 dX11_write_13 rfl rfl rfl ?_
    refine e_getr (j := 4) 17 fl_11_33 dX11_write_14 at_0 rfl rfl tp_0_4 rfl ?_
    refine e_iload_n (i := 1) 18 dX11_write_17 rfl rfl rfl ?_
    refine e_aald 19 dX11_write_18 ar_894 (by decide) (by omega) (by omega) (tp_row (by omega) (by omega)) rfl ?_
    refine e_geti (j := 0) 22 fl_11_339 dX11_write_19 (at_row (by omega) (by omega)) (by decide) rfl rfl (fun r19 => ?_)
    refine e_iconst 23 dX11_write_22 rfl ?_
    refine e_icmp_ne 26 30 dX11_write_23 (by omega) (by decide) (by decide) rfl (fun b23 => ?_) (fun b23 => ?_)
    · skip
      refine e_iload_n (i := 2) 31 dX11_write_30 rfl rfl rfl ?_
      refine e_iconst 32 dX11_write_31 rfl ?_
      refine e_aload_n (i := 0) 33 dX11_write_32 rfl rfl rfl ?_
      refine e_getr (j := 4) 36 fl_11_33 dX11_write_33 at_0 rfl rfl tp_0_4 rfl ?_
      refine e_iload_n (i := 1) 37 dX11_write_36 rfl rfl rfl ?_
      refine e_aald 38 dX11_write_37 ar_894 (by decide) (by omega) (by omega) (tp_row (by omega) (by omega)) rfl ?_
      refine e_geti (j := 0) 41 fl_11_339 dX11_write_38 (at_row (by omega) (by omega)) (by decide) rfl rfl (fun r38 => ?_)
      refine e_iconst 42 dX11_write_41 rfl ?_
      refine e_isub 43 dX11_write_42 rfl ?_
      refine e_callS 46 mt_yX11_within ms_yX11_within wd_531 (by decide) dX11_write_43 rfl rfl (Nat.le_of_ble_eq_true rfl) (jroom (by decide)) rfl (c_within (by omega) (by omega) (by omega) (fun w43 => ?_) (fun w43 => ?_))
      · dsimp only [jpush]
        refine e_if_ne 49 53 dX11_write_46 (by decide) (by decide) rfl (fun _ => ?_) (fun h => absurd h (by decide))
        refine e_aload_n (i := 0) 54 dX11_write_53 rfl rfl rfl ?_
        refine e_getr (j := 4) 57 fl_11_33 dX11_write_54 at_0 rfl rfl tp_0_4 rfl ?_
        refine e_iload_n (i := 1) 58 dX11_write_57 rfl rfl rfl ?_
        refine e_aald 59 dX11_write_58 ar_894 (by decide) (by omega) (by omega) (tp_row (by omega) (by omega)) rfl ?_
        refine e_iload_n (i := 2) 60 dX11_write_59 rfl rfl rfl ?_
        refine e_lload_n (i := 3) 61 dX11_write_60 rfl rfl rfl ?_
        refine e_callV 64 mt_yX7_set mv_yX7_set wd_1210 (by decide) dX11_write_61 (at_row (by omega) (by omega)) jc_7 rfl rfl rfl (Nat.le_of_ble_eq_true rfl) (jroom (by decide)) rfl (c_set (by omega) (by omega) (by omega) (by omega) ?_)
        dsimp only [jpush]
        refine e_lret dX11_write_64 ?_
        refine jCt_of mt_yX12_write (Nat.le_of_ble_eq_true rfl) (fun X2 => ?_)
        refine e_aload_n (i := 0) 1 dX12_write_0 rfl rfl rfl ?_
        refine e_iconst 2 dX12_write_1 rfl ?_
        refine e_put0 (j := 0) 5 fl_12_1 dX12_write_2 at_928 rfl rfl rfl (by decide) (by first | exact hI.1 | (simp (disch := omega) only [jset_k, jset_j, jset_same, true_and, and_true]; exact hI.1)) rfl ?_
        refine e_iload_n (i := 1) 6 dX12_write_5 rfl rfl rfl ?_
        refine e_i2l 7 dX12_write_6 (by omega) rfl ?_
        refine e_lconst0 8 dX12_write_7 rfl ?_
        refine e_ldc2 (z := (3)) 11 (ix := 159) wd_1442 (by decide) dX12_write_8 rfl ?_
        refine e_callS 14 mt_yX12_within ms_yX12_within wd_1390 (by decide) dX12_write_11 rfl rfl (Nat.le_of_ble_eq_true rfl) (jroom (by decide)) rfl (m_within (by omega) (by omega) (by omega) (fun w11 => ?_) (fun w11 => ?_))
        · dsimp only [jpush]
          (try simp (disch := omega) only [jset_k, jset_j, jset_same, true_and, and_true] at w11)
          first
           | (exfalso; omega)
           | (skip
              refine e_if_ne 17 21 dX12_write_14 (by decide) (by decide) rfl (fun _ => ?_) (fun h => absurd h (by decide))
              refine e_aload_n (i := 0) 22 dX12_write_21 rfl rfl rfl ?_
              refine e_getr (j := 31) 25 fl_12_69 dX12_write_22 at_928 rfl rfl tp_928_31 rfl ?_
              refine e_iload_n (i := 1) 26 dX12_write_25 rfl rfl rfl ?_
              refine e_iald 27 dX12_write_26 ar_946 (by omega) (by omega) rfl (fun r26 => ?_)
              simp (disch := omega) only [jset_k, jset_j, jset_same, true_and, and_true] at r26 ⊢
              refine e_iconst 28 dX12_write_27 rfl ?_
              refine e_icmp_ne 31 35 dX12_write_28 (by omega) (by decide) (by decide) rfl (fun b28 => ?_) (fun b28 => ?_)
              · first
                 | (exfalso; omega)
                 | (skip
                    refine e_iload_n (i := 2) 36 dX12_write_35 rfl rfl rfl ?_
                    refine e_i2l 37 dX12_write_36 (by omega) rfl ?_
                    refine e_lconst0 38 dX12_write_37 rfl ?_
                    refine e_aload_n (i := 0) 39 dX12_write_38 rfl rfl rfl ?_
                    refine e_getr (j := 32) 42 fl_12_72 dX12_write_39 at_928 rfl rfl tp_928_32 rfl ?_
                    refine e_iload_n (i := 1) 43 dX12_write_42 rfl rfl rfl ?_
                    refine e_iald 44 dX12_write_43 ar_947 (by omega) (by omega) rfl (fun r43 => ?_)
                    simp (disch := omega) only [jset_k, jset_j, jset_same, true_and, and_true] at r43 ⊢
                    refine e_iconst 45 dX12_write_44 rfl ?_
                    refine e_isub 46 dX12_write_45 rfl ?_
                    refine e_i2l 47 dX12_write_46 (by omega) rfl ?_
                    refine e_callS 50 mt_yX12_within ms_yX12_within wd_1390 (by decide) dX12_write_47 rfl rfl (Nat.le_of_ble_eq_true rfl) (jroom (by decide)) rfl (m_within (by omega) (by omega) (by omega) (fun w47 => ?_) (fun w47 => ?_))
                    · dsimp only [jpush]
                      (try simp (disch := omega) only [jset_k, jset_j, jset_same, true_and, and_true] at w47)
                      first
                       | (exfalso; omega)
                       | (skip
                          refine e_if_ne 53 57 dX12_write_50 (by decide) (by decide) rfl (fun _ => ?_) (fun h => absurd h (by decide))
                          refine e_aload_n (i := 0) 58 dX12_write_57 rfl rfl rfl ?_
                          refine e_getr (j := 33) 61 fl_12_75 dX12_write_58 at_928 rfl rfl tp_928_33 rfl ?_
                          refine e_bipush 63 dX12_write_61 (by decide) rfl ?_
                          refine e_iload_n (i := 1) 64 dX12_write_63 rfl rfl rfl ?_
                          refine e_imul 65 dX12_write_64 rfl ?_
                          refine e_iload_n (i := 2) 66 dX12_write_65 rfl rfl rfl ?_
                          refine e_iadd 67 dX12_write_66 rfl ?_
                          refine e_lload_n (i := 3) 68 dX12_write_67 rfl rfl rfl ?_
                          refine e_aload_n (i := 0) 69 dX12_write_68 rfl rfl rfl ?_
                          refine e_getr (j := 31) 72 fl_12_69 dX12_write_69 at_928 rfl rfl tp_928_31 rfl ?_
                          refine e_iload_n (i := 1) 73 dX12_write_72 rfl rfl rfl ?_
                          refine e_iald 74 dX12_write_73 ar_946 (by omega) (by omega) rfl (fun r73 => ?_)
                          simp (disch := omega) only [jset_k, jset_j, jset_same, true_and, and_true] at r73 ⊢
                          refine e_callS 77 mt_yX12_cut ms_yX12_cut wd_1814 (by decide) dX12_write_74 rfl rfl (Nat.le_of_ble_eq_true rfl) (jroom (by decide)) rfl (m_cut (by omega) (by omega) ?_)
                          dsimp only [jpush]
                          refine e_last 78 dX12_write_77 ar_948 (by omega) (by omega) (by omega) rfl ?_
                          refine e_aload_n (i := 0) 79 dX12_write_78 rfl rfl rfl ?_
                          refine e_getr (j := 33) 82 fl_12_75 dX12_write_79 at_928 rfl rfl tp_928_33 rfl ?_
                          refine e_bipush 84 dX12_write_82 (by decide) rfl ?_
                          refine e_iload_n (i := 1) 85 dX12_write_84 rfl rfl rfl ?_
                          refine e_imul 86 dX12_write_85 rfl ?_
                          refine e_iload_n (i := 2) 87 dX12_write_86 rfl rfl rfl ?_
                          refine e_iadd 88 dX12_write_87 rfl ?_
                          refine e_lald 89 dX12_write_88 ar_948 (by omega) (by omega) rfl (fun r88 => ?_)
                          simp (disch := omega) only [jset_k, jset_j, jset_same, true_and, and_true] at r88 ⊢
                          refine e_lret dX12_write_89 ?_
                          first
                            | (exact ⟨by omega, hI⟩)
                            | (exfalso; omega)
                            | (refine ⟨congrArg (fun s => cutV s v) (by omega), ?_⟩
                               have hc : cutV (M (895 + 2 * row) 1) v = cutV (M 946 row) v := congrArg (fun s => cutV s v) (by omega)
                               rw [hc]
                               refine hI.rows (fun k j a b c d => ?_) ?_
                               · simp (disch := omega) only [jset_k]
                               · intro r r0 r1
                                 by_cases e : r = row
                                 · rw [e]
                                   refine Or.inr ⟨?_, ?_, ?_, ?_, fun i2 i0 i1 => ?_⟩
                                   · simp (disch := omega) only [jset_k, jset_j, jset_same]
                                     omega
                                   · simp (disch := omega) only [jset_k, jset_j, jset_same]
                                     omega
                                   · simp (disch := omega) only [jset_k, jset_j, jset_same]
                                     omega
                                   · simp (disch := omega) only [jset_k, jset_j, jset_same]
                                     omega
                                   · simp (disch := omega) only [jset_k, jset_j, jset_same] at i1
                                     by_cases e2 : i2 = i
                                     · rw [e2]
                                       simp (disch := omega) only [jset_k, jset_j, jset_same]
                                     · simp (disch := omega) only [jset_k, jset_j, jset_same]
                                       have h := hw.resolve_left (fun q => by omega)
                                       exact h.2.2.2.2 i2 i0 i1
                                 · have h := hI.2.2.2.2.2.1 r r0 r1
                                   simp (disch := omega) only [jset_k, jset_j, jset_same]
                                   refine h.imp id (fun h => ⟨h.1, h.2.1, h.2.2.1, h.2.2.2.1, fun i2 i0 i1 => ?_⟩)
                                   simp (disch := omega) only [jset_k, jset_j, jset_same]
                                   exact h.2.2.2.2 i2 i0 i1))
                    · dsimp only [jpush]
                      (try simp (disch := omega) only [jset_k, jset_j, jset_same, true_and, and_true] at w47)
                      first
                       | (exfalso; omega)
                       | (skip
                          refine e_if_ne 53 57 dX12_write_50 (by decide) (by decide) rfl (fun h => absurd h (by decide)) (fun _ => ?_)
                          refine e_ldc2 (z := (-7)) 56 (ix := 357) wd_1813 (by decide) dX12_write_53 rfl ?_
                          refine e_lret dX12_write_56 ?_
                          first
                            | (exact ⟨by omega, hI⟩)
                            | (exfalso; omega)))
              · first
                 | (exfalso; omega)
                 | (skip
                    refine e_ldc2 (z := (-6)) 34 (ix := 355) wd_1812 (by decide) dX12_write_31 rfl ?_
                    refine e_lret dX12_write_34 ?_
                    first
                      | (exact ⟨by omega, hI⟩)
                      | (exfalso; omega)))
        · dsimp only [jpush]
          (try simp (disch := omega) only [jset_k, jset_j, jset_same, true_and, and_true] at w11)
          first
           | (exfalso; omega)
           | (skip
              refine e_if_ne 17 21 dX12_write_14 (by decide) (by decide) rfl (fun h => absurd h (by decide)) (fun _ => ?_)
              refine e_ldc2 (z := (-2)) 20 (ix := 280) wd_1633 (by decide) dX12_write_17 rfl ?_
              refine e_lret dX12_write_20 ?_
              first
                | (exact ⟨by omega, hI⟩)
                | (exfalso; omega))
      · dsimp only [jpush]
        refine e_if_ne 49 53 dX11_write_46 (by decide) (by decide) rfl (fun h => absurd h (by decide)) (fun _ => ?_)
        refine e_ldc2 (z := (-7)) 52 (ix := 430) wd_1209 (by decide) dX11_write_49 rfl ?_
        refine e_lret dX11_write_52 ?_
        refine jCt_of mt_yX12_write (Nat.le_of_ble_eq_true rfl) (fun X2 => ?_)
        refine e_aload_n (i := 0) 1 dX12_write_0 rfl rfl rfl ?_
        refine e_iconst 2 dX12_write_1 rfl ?_
        refine e_put0 (j := 0) 5 fl_12_1 dX12_write_2 at_928 rfl rfl rfl (by decide) hI.1 rfl ?_
        refine e_iload_n (i := 1) 6 dX12_write_5 rfl rfl rfl ?_
        refine e_i2l 7 dX12_write_6 (by omega) rfl ?_
        refine e_lconst0 8 dX12_write_7 rfl ?_
        refine e_ldc2 (z := (3)) 11 (ix := 159) wd_1442 (by decide) dX12_write_8 rfl ?_
        refine e_callS 14 mt_yX12_within ms_yX12_within wd_1390 (by decide) dX12_write_11 rfl rfl (Nat.le_of_ble_eq_true rfl) (jroom (by decide)) rfl (m_within (by omega) (by omega) (by omega) (fun w11 => ?_) (fun w11 => ?_))
        · dsimp only [jpush]
          first
           | (exfalso; omega)
           | (skip
              refine e_if_ne 17 21 dX12_write_14 (by decide) (by decide) rfl (fun _ => ?_) (fun h => absurd h (by decide))
              refine e_aload_n (i := 0) 22 dX12_write_21 rfl rfl rfl ?_
              refine e_getr (j := 31) 25 fl_12_69 dX12_write_22 at_928 rfl rfl tp_928_31 rfl ?_
              refine e_iload_n (i := 1) 26 dX12_write_25 rfl rfl rfl ?_
              refine e_iald 27 dX12_write_26 ar_946 (by omega) (by omega) rfl (fun r26 => ?_)
              refine e_iconst 28 dX12_write_27 rfl ?_
              refine e_icmp_ne 31 35 dX12_write_28 (by omega) (by decide) (by decide) rfl (fun b28 => ?_) (fun b28 => ?_)
              · first
                 | (exfalso; omega)
                 | (skip
                    refine e_iload_n (i := 2) 36 dX12_write_35 rfl rfl rfl ?_
                    refine e_i2l 37 dX12_write_36 (by omega) rfl ?_
                    refine e_lconst0 38 dX12_write_37 rfl ?_
                    refine e_aload_n (i := 0) 39 dX12_write_38 rfl rfl rfl ?_
                    refine e_getr (j := 32) 42 fl_12_72 dX12_write_39 at_928 rfl rfl tp_928_32 rfl ?_
                    refine e_iload_n (i := 1) 43 dX12_write_42 rfl rfl rfl ?_
                    refine e_iald 44 dX12_write_43 ar_947 (by omega) (by omega) rfl (fun r43 => ?_)
                    refine e_iconst 45 dX12_write_44 rfl ?_
                    refine e_isub 46 dX12_write_45 rfl ?_
                    refine e_i2l 47 dX12_write_46 (by omega) rfl ?_
                    refine e_callS 50 mt_yX12_within ms_yX12_within wd_1390 (by decide) dX12_write_47 rfl rfl (Nat.le_of_ble_eq_true rfl) (jroom (by decide)) rfl (m_within (by omega) (by omega) (by omega) (fun w47 => ?_) (fun w47 => ?_))
                    · dsimp only [jpush]
                      first
                       | (exfalso; omega)
                       | (skip
                          refine e_if_ne 53 57 dX12_write_50 (by decide) (by decide) rfl (fun _ => ?_) (fun h => absurd h (by decide))
                          refine e_aload_n (i := 0) 58 dX12_write_57 rfl rfl rfl ?_
                          refine e_getr (j := 33) 61 fl_12_75 dX12_write_58 at_928 rfl rfl tp_928_33 rfl ?_
                          refine e_bipush 63 dX12_write_61 (by decide) rfl ?_
                          refine e_iload_n (i := 1) 64 dX12_write_63 rfl rfl rfl ?_
                          refine e_imul 65 dX12_write_64 rfl ?_
                          refine e_iload_n (i := 2) 66 dX12_write_65 rfl rfl rfl ?_
                          refine e_iadd 67 dX12_write_66 rfl ?_
                          refine e_lload_n (i := 3) 68 dX12_write_67 rfl rfl rfl ?_
                          refine e_aload_n (i := 0) 69 dX12_write_68 rfl rfl rfl ?_
                          refine e_getr (j := 31) 72 fl_12_69 dX12_write_69 at_928 rfl rfl tp_928_31 rfl ?_
                          refine e_iload_n (i := 1) 73 dX12_write_72 rfl rfl rfl ?_
                          refine e_iald 74 dX12_write_73 ar_946 (by omega) (by omega) rfl (fun r73 => ?_)
                          refine e_callS 77 mt_yX12_cut ms_yX12_cut wd_1814 (by decide) dX12_write_74 rfl rfl (Nat.le_of_ble_eq_true rfl) (jroom (by decide)) rfl (m_cut (by omega) (by omega) ?_)
                          dsimp only [jpush]
                          refine e_last 78 dX12_write_77 ar_948 (by omega) (by omega) (by omega) rfl ?_
                          refine e_aload_n (i := 0) 79 dX12_write_78 rfl rfl rfl ?_
                          refine e_getr (j := 33) 82 fl_12_75 dX12_write_79 at_928 rfl rfl tp_928_33 rfl ?_
                          refine e_bipush 84 dX12_write_82 (by decide) rfl ?_
                          refine e_iload_n (i := 1) 85 dX12_write_84 rfl rfl rfl ?_
                          refine e_imul 86 dX12_write_85 rfl ?_
                          refine e_iload_n (i := 2) 87 dX12_write_86 rfl rfl rfl ?_
                          refine e_iadd 88 dX12_write_87 rfl ?_
                          refine e_lald 89 dX12_write_88 ar_948 (by omega) (by omega) rfl (fun r88 => ?_)
                          simp (disch := omega) only [jset_k, jset_j, jset_same, true_and, and_true] at r88 ⊢
                          refine e_lret dX12_write_89 ?_
                          first
                            | (exact ⟨by omega, hI⟩)
                            | (exfalso; omega))
                    · dsimp only [jpush]
                      first
                       | (exfalso; omega)
                       | (skip
                          refine e_if_ne 53 57 dX12_write_50 (by decide) (by decide) rfl (fun h => absurd h (by decide)) (fun _ => ?_)
                          refine e_ldc2 (z := (-7)) 56 (ix := 357) wd_1813 (by decide) dX12_write_53 rfl ?_
                          refine e_lret dX12_write_56 ?_
                          first
                            | (exact ⟨by omega, hI⟩)
                            | (exfalso; omega)))
              · first
                 | (exfalso; omega)
                 | (skip
                    refine e_ldc2 (z := (-6)) 34 (ix := 355) wd_1812 (by decide) dX12_write_31 rfl ?_
                    refine e_lret dX12_write_34 ?_
                    first
                      | (exact ⟨by omega, hI⟩)
                      | (exfalso; omega)))
        · dsimp only [jpush]
          first
           | (exfalso; omega)
           | (skip
              refine e_if_ne 17 21 dX12_write_14 (by decide) (by decide) rfl (fun h => absurd h (by decide)) (fun _ => ?_)
              refine e_ldc2 (z := (-2)) 20 (ix := 280) wd_1633 (by decide) dX12_write_17 rfl ?_
              refine e_lret dX12_write_20 ?_
              first
                | (exact ⟨by omega, hI⟩)
                | (exfalso; omega))
    · skip
      refine e_ldc2 (z := (-6)) 29 (ix := 428) wd_1208 (by decide) dX11_write_26 rfl ?_
      refine e_lret dX11_write_29 ?_
      refine jCt_of mt_yX12_write (Nat.le_of_ble_eq_true rfl) (fun X2 => ?_)
      refine e_aload_n (i := 0) 1 dX12_write_0 rfl rfl rfl ?_
      refine e_iconst 2 dX12_write_1 rfl ?_
      refine e_put0 (j := 0) 5 fl_12_1 dX12_write_2 at_928 rfl rfl rfl (by decide) hI.1 rfl ?_
      refine e_iload_n (i := 1) 6 dX12_write_5 rfl rfl rfl ?_
      refine e_i2l 7 dX12_write_6 (by omega) rfl ?_
      refine e_lconst0 8 dX12_write_7 rfl ?_
      refine e_ldc2 (z := (3)) 11 (ix := 159) wd_1442 (by decide) dX12_write_8 rfl ?_
      refine e_callS 14 mt_yX12_within ms_yX12_within wd_1390 (by decide) dX12_write_11 rfl rfl (Nat.le_of_ble_eq_true rfl) (jroom (by decide)) rfl (m_within (by omega) (by omega) (by omega) (fun w11 => ?_) (fun w11 => ?_))
      · dsimp only [jpush]
        first
         | (exfalso; omega)
         | (skip
            refine e_if_ne 17 21 dX12_write_14 (by decide) (by decide) rfl (fun _ => ?_) (fun h => absurd h (by decide))
            refine e_aload_n (i := 0) 22 dX12_write_21 rfl rfl rfl ?_
            refine e_getr (j := 31) 25 fl_12_69 dX12_write_22 at_928 rfl rfl tp_928_31 rfl ?_
            refine e_iload_n (i := 1) 26 dX12_write_25 rfl rfl rfl ?_
            refine e_iald 27 dX12_write_26 ar_946 (by omega) (by omega) rfl (fun r26 => ?_)
            refine e_iconst 28 dX12_write_27 rfl ?_
            refine e_icmp_ne 31 35 dX12_write_28 (by omega) (by decide) (by decide) rfl (fun b28 => ?_) (fun b28 => ?_)
            · first
               | (exfalso; omega)
               | (skip
                  refine e_iload_n (i := 2) 36 dX12_write_35 rfl rfl rfl ?_
                  refine e_i2l 37 dX12_write_36 (by omega) rfl ?_
                  refine e_lconst0 38 dX12_write_37 rfl ?_
                  refine e_aload_n (i := 0) 39 dX12_write_38 rfl rfl rfl ?_
                  refine e_getr (j := 32) 42 fl_12_72 dX12_write_39 at_928 rfl rfl tp_928_32 rfl ?_
                  refine e_iload_n (i := 1) 43 dX12_write_42 rfl rfl rfl ?_
                  refine e_iald 44 dX12_write_43 ar_947 (by omega) (by omega) rfl (fun r43 => ?_)
                  refine e_iconst 45 dX12_write_44 rfl ?_
                  refine e_isub 46 dX12_write_45 rfl ?_
                  refine e_i2l 47 dX12_write_46 (by omega) rfl ?_
                  refine e_callS 50 mt_yX12_within ms_yX12_within wd_1390 (by decide) dX12_write_47 rfl rfl (Nat.le_of_ble_eq_true rfl) (jroom (by decide)) rfl (m_within (by omega) (by omega) (by omega) (fun w47 => ?_) (fun w47 => ?_))
                  · dsimp only [jpush]
                    first
                     | (exfalso; omega)
                     | (skip
                        refine e_if_ne 53 57 dX12_write_50 (by decide) (by decide) rfl (fun _ => ?_) (fun h => absurd h (by decide))
                        refine e_aload_n (i := 0) 58 dX12_write_57 rfl rfl rfl ?_
                        refine e_getr (j := 33) 61 fl_12_75 dX12_write_58 at_928 rfl rfl tp_928_33 rfl ?_
                        refine e_bipush 63 dX12_write_61 (by decide) rfl ?_
                        refine e_iload_n (i := 1) 64 dX12_write_63 rfl rfl rfl ?_
                        refine e_imul 65 dX12_write_64 rfl ?_
                        refine e_iload_n (i := 2) 66 dX12_write_65 rfl rfl rfl ?_
                        refine e_iadd 67 dX12_write_66 rfl ?_
                        refine e_lload_n (i := 3) 68 dX12_write_67 rfl rfl rfl ?_
                        refine e_aload_n (i := 0) 69 dX12_write_68 rfl rfl rfl ?_
                        refine e_getr (j := 31) 72 fl_12_69 dX12_write_69 at_928 rfl rfl tp_928_31 rfl ?_
                        refine e_iload_n (i := 1) 73 dX12_write_72 rfl rfl rfl ?_
                        refine e_iald 74 dX12_write_73 ar_946 (by omega) (by omega) rfl (fun r73 => ?_)
                        refine e_callS 77 mt_yX12_cut ms_yX12_cut wd_1814 (by decide) dX12_write_74 rfl rfl (Nat.le_of_ble_eq_true rfl) (jroom (by decide)) rfl (m_cut (by omega) (by omega) ?_)
                        dsimp only [jpush]
                        refine e_last 78 dX12_write_77 ar_948 (by omega) (by omega) (by omega) rfl ?_
                        refine e_aload_n (i := 0) 79 dX12_write_78 rfl rfl rfl ?_
                        refine e_getr (j := 33) 82 fl_12_75 dX12_write_79 at_928 rfl rfl tp_928_33 rfl ?_
                        refine e_bipush 84 dX12_write_82 (by decide) rfl ?_
                        refine e_iload_n (i := 1) 85 dX12_write_84 rfl rfl rfl ?_
                        refine e_imul 86 dX12_write_85 rfl ?_
                        refine e_iload_n (i := 2) 87 dX12_write_86 rfl rfl rfl ?_
                        refine e_iadd 88 dX12_write_87 rfl ?_
                        refine e_lald 89 dX12_write_88 ar_948 (by omega) (by omega) rfl (fun r88 => ?_)
                        simp (disch := omega) only [jset_k, jset_j, jset_same, true_and, and_true] at r88 ⊢
                        refine e_lret dX12_write_89 ?_
                        first
                          | (exact ⟨by omega, hI⟩)
                          | (exfalso; omega))
                  · dsimp only [jpush]
                    first
                     | (exfalso; omega)
                     | (skip
                        refine e_if_ne 53 57 dX12_write_50 (by decide) (by decide) rfl (fun h => absurd h (by decide)) (fun _ => ?_)
                        refine e_ldc2 (z := (-7)) 56 (ix := 357) wd_1813 (by decide) dX12_write_53 rfl ?_
                        refine e_lret dX12_write_56 ?_
                        first
                          | (exact ⟨by omega, hI⟩)
                          | (exfalso; omega)))
            · first
               | (exfalso; omega)
               | (skip
                  refine e_ldc2 (z := (-6)) 34 (ix := 355) wd_1812 (by decide) dX12_write_31 rfl ?_
                  refine e_lret dX12_write_34 ?_
                  first
                    | (exact ⟨by omega, hI⟩)
                    | (exfalso; omega)))
      · dsimp only [jpush]
        first
         | (exfalso; omega)
         | (skip
            refine e_if_ne 17 21 dX12_write_14 (by decide) (by decide) rfl (fun h => absurd h (by decide)) (fun _ => ?_)
            refine e_ldc2 (z := (-2)) 20 (ix := 280) wd_1633 (by decide) dX12_write_17 rfl ?_
            refine e_lret dX12_write_20 ?_
            first
              | (exact ⟨by omega, hI⟩)
              | (exfalso; omega))
  · dsimp only [jpush]
    refine e_if_ne 9 13 dX11_write_6 (by decide) (by decide) rfl (fun h => absurd h (by decide)) (fun _ => ?_)
    refine e_ldc2 (z := (-2)) 12 (ix := 302) wd_932 (by decide) dX11_write_9 rfl ?_
    refine e_lret dX11_write_12 ?_
    refine jCt_of mt_yX12_write (Nat.le_of_ble_eq_true rfl) (fun X2 => ?_)
    refine e_aload_n (i := 0) 1 dX12_write_0 rfl rfl rfl ?_
    refine e_iconst 2 dX12_write_1 rfl ?_
    refine e_put0 (j := 0) 5 fl_12_1 dX12_write_2 at_928 rfl rfl rfl (by decide) hI.1 rfl ?_
    refine e_iload_n (i := 1) 6 dX12_write_5 rfl rfl rfl ?_
    refine e_i2l 7 dX12_write_6 (by omega) rfl ?_
    refine e_lconst0 8 dX12_write_7 rfl ?_
    refine e_ldc2 (z := (3)) 11 (ix := 159) wd_1442 (by decide) dX12_write_8 rfl ?_
    refine e_callS 14 mt_yX12_within ms_yX12_within wd_1390 (by decide) dX12_write_11 rfl rfl (Nat.le_of_ble_eq_true rfl) (jroom (by decide)) rfl (m_within (by omega) (by omega) (by omega) (fun w11 => ?_) (fun w11 => ?_))
    · dsimp only [jpush]
      first
       | (exfalso; omega)
       | (skip
          refine e_if_ne 17 21 dX12_write_14 (by decide) (by decide) rfl (fun _ => ?_) (fun h => absurd h (by decide))
          refine e_aload_n (i := 0) 22 dX12_write_21 rfl rfl rfl ?_
          refine e_getr (j := 31) 25 fl_12_69 dX12_write_22 at_928 rfl rfl tp_928_31 rfl ?_
          refine e_iload_n (i := 1) 26 dX12_write_25 rfl rfl rfl ?_
          refine e_iald 27 dX12_write_26 ar_946 (by omega) (by omega) rfl (fun r26 => ?_)
          refine e_iconst 28 dX12_write_27 rfl ?_
          refine e_icmp_ne 31 35 dX12_write_28 (by omega) (by decide) (by decide) rfl (fun b28 => ?_) (fun b28 => ?_)
          · first
             | (exfalso; omega)
             | (skip
                refine e_iload_n (i := 2) 36 dX12_write_35 rfl rfl rfl ?_
                refine e_i2l 37 dX12_write_36 (by omega) rfl ?_
                refine e_lconst0 38 dX12_write_37 rfl ?_
                refine e_aload_n (i := 0) 39 dX12_write_38 rfl rfl rfl ?_
                refine e_getr (j := 32) 42 fl_12_72 dX12_write_39 at_928 rfl rfl tp_928_32 rfl ?_
                refine e_iload_n (i := 1) 43 dX12_write_42 rfl rfl rfl ?_
                refine e_iald 44 dX12_write_43 ar_947 (by omega) (by omega) rfl (fun r43 => ?_)
                refine e_iconst 45 dX12_write_44 rfl ?_
                refine e_isub 46 dX12_write_45 rfl ?_
                refine e_i2l 47 dX12_write_46 (by omega) rfl ?_
                refine e_callS 50 mt_yX12_within ms_yX12_within wd_1390 (by decide) dX12_write_47 rfl rfl (Nat.le_of_ble_eq_true rfl) (jroom (by decide)) rfl (m_within (by omega) (by omega) (by omega) (fun w47 => ?_) (fun w47 => ?_))
                · dsimp only [jpush]
                  first
                   | (exfalso; omega)
                   | (skip
                      refine e_if_ne 53 57 dX12_write_50 (by decide) (by decide) rfl (fun _ => ?_) (fun h => absurd h (by decide))
                      refine e_aload_n (i := 0) 58 dX12_write_57 rfl rfl rfl ?_
                      refine e_getr (j := 33) 61 fl_12_75 dX12_write_58 at_928 rfl rfl tp_928_33 rfl ?_
                      refine e_bipush 63 dX12_write_61 (by decide) rfl ?_
                      refine e_iload_n (i := 1) 64 dX12_write_63 rfl rfl rfl ?_
                      refine e_imul 65 dX12_write_64 rfl ?_
                      refine e_iload_n (i := 2) 66 dX12_write_65 rfl rfl rfl ?_
                      refine e_iadd 67 dX12_write_66 rfl ?_
                      refine e_lload_n (i := 3) 68 dX12_write_67 rfl rfl rfl ?_
                      refine e_aload_n (i := 0) 69 dX12_write_68 rfl rfl rfl ?_
                      refine e_getr (j := 31) 72 fl_12_69 dX12_write_69 at_928 rfl rfl tp_928_31 rfl ?_
                      refine e_iload_n (i := 1) 73 dX12_write_72 rfl rfl rfl ?_
                      refine e_iald 74 dX12_write_73 ar_946 (by omega) (by omega) rfl (fun r73 => ?_)
                      refine e_callS 77 mt_yX12_cut ms_yX12_cut wd_1814 (by decide) dX12_write_74 rfl rfl (Nat.le_of_ble_eq_true rfl) (jroom (by decide)) rfl (m_cut (by omega) (by omega) ?_)
                      dsimp only [jpush]
                      refine e_last 78 dX12_write_77 ar_948 (by omega) (by omega) (by omega) rfl ?_
                      refine e_aload_n (i := 0) 79 dX12_write_78 rfl rfl rfl ?_
                      refine e_getr (j := 33) 82 fl_12_75 dX12_write_79 at_928 rfl rfl tp_928_33 rfl ?_
                      refine e_bipush 84 dX12_write_82 (by decide) rfl ?_
                      refine e_iload_n (i := 1) 85 dX12_write_84 rfl rfl rfl ?_
                      refine e_imul 86 dX12_write_85 rfl ?_
                      refine e_iload_n (i := 2) 87 dX12_write_86 rfl rfl rfl ?_
                      refine e_iadd 88 dX12_write_87 rfl ?_
                      refine e_lald 89 dX12_write_88 ar_948 (by omega) (by omega) rfl (fun r88 => ?_)
                      simp (disch := omega) only [jset_k, jset_j, jset_same, true_and, and_true] at r88 ⊢
                      refine e_lret dX12_write_89 ?_
                      first
                        | (exact ⟨by omega, hI⟩)
                        | (exfalso; omega))
                · dsimp only [jpush]
                  first
                   | (exfalso; omega)
                   | (skip
                      refine e_if_ne 53 57 dX12_write_50 (by decide) (by decide) rfl (fun h => absurd h (by decide)) (fun _ => ?_)
                      refine e_ldc2 (z := (-7)) 56 (ix := 357) wd_1813 (by decide) dX12_write_53 rfl ?_
                      refine e_lret dX12_write_56 ?_
                      first
                        | (exact ⟨by omega, hI⟩)
                        | (exfalso; omega)))
          · first
             | (exfalso; omega)
             | (skip
                refine e_ldc2 (z := (-6)) 34 (ix := 355) wd_1812 (by decide) dX12_write_31 rfl ?_
                refine e_lret dX12_write_34 ?_
                first
                  | (exact ⟨by omega, hI⟩)
                  | (exfalso; omega)))
    · dsimp only [jpush]
      first
       | (exfalso; omega)
       | (skip
          refine e_if_ne 17 21 dX12_write_14 (by decide) (by decide) rfl (fun h => absurd h (by decide)) (fun _ => ?_)
          refine e_ldc2 (z := (-2)) 20 (ix := 280) wd_1633 (by decide) dX12_write_17 rfl ?_
          refine e_lret dX12_write_20 ?_
          first
            | (exact ⟨by omega, hI⟩)
            | (exfalso; omega))

