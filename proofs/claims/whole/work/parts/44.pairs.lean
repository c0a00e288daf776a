/-! PAIRS: scribe -/
theorem c_areStrokes {a b c d e : Int} {M : jM} {Q : Int → jM → Prop} (ha : -2147483648 ≤ a ∧ a ≤ 2147483647) (hb : -2147483648 ≤ b ∧ b ≤ 2147483647) (hc : -2147483648 ≤ c ∧ c ≤ 2147483647) (hd : -2147483648 ≤ d ∧ d ≤ 2147483647) (he : -2147483648 ≤ e ∧ e ≤ 2147483647) (h1 : ((0 ≤ a ∧ a ≤ 9) ∧ (0 ≤ b ∧ b ≤ 9) ∧ (0 ≤ c ∧ c ≤ 9) ∧ (0 ≤ d ∧ d ≤ 9) ∧ (0 ≤ e ∧ e ≤ 9)) → Q 1 M) (h0 : ¬ ((0 ≤ a ∧ a ≤ 9) ∧ (0 ≤ b ∧ b ≤ 9) ∧ (0 ≤ c ∧ c ≤ 9) ∧ (0 ≤ d ∧ d ≤ 9) ∧ (0 ≤ e ∧ e ≤ 9)) → Q 0 M) : jCt yX11_areStrokes cX11_areStrokes 5 (some .boolean) 2 [jI a, jI b, jI c, jI d, jI e] M Q := by
  refine jCt_of mt_yX11_areStrokes (Nat.le_of_ble_eq_true rfl) (fun X => ?_)
  refine e_iload_n (i := 0) 1 dX11_areStrokes_0 rfl rfl rfl ?_
  refine e_iconst 2 dX11_areStrokes_1 rfl ?_
  refine e_bipush 4 dX11_areStrokes_2 (by decide) rfl ?_
  refine e_callS 7 mt_yX11_within ms_yX11_within wd_531 (by decide) dX11_areStrokes_4 rfl rfl (Nat.le_of_ble_eq_true rfl) (jroom (by decide)) rfl (c_within (by omega) (by omega) (by omega) (fun w4 => ?_) (fun w4 => ?_))
  · dsimp only [jpush]
    refine e_if_eq 10 55 dX11_areStrokes_7 (by decide) (by decide) rfl (fun h => absurd h (by decide)) (fun _ => ?_)
    refine e_iload_n (i := 1) 11 dX11_areStrokes_10 rfl rfl rfl ?_
    refine e_iconst 12 dX11_areStrokes_11 rfl ?_
    refine e_bipush 14 dX11_areStrokes_12 (by decide) rfl ?_
    refine e_callS 17 mt_yX11_within ms_yX11_within wd_531 (by decide) dX11_areStrokes_14 rfl rfl (Nat.le_of_ble_eq_true rfl) (jroom (by decide)) rfl (c_within (by omega) (by omega) (by omega) (fun w14 => ?_) (fun w14 => ?_))
    · dsimp only [jpush]
      refine e_if_eq 20 55 dX11_areStrokes_17 (by decide) (by decide) rfl (fun h => absurd h (by decide)) (fun _ => ?_)
      refine e_iload_n (i := 2) 21 dX11_areStrokes_20 rfl rfl rfl ?_
      refine e_iconst 22 dX11_areStrokes_21 rfl ?_
      refine e_bipush 24 dX11_areStrokes_22 (by decide) rfl ?_
      refine e_callS 27 mt_yX11_within ms_yX11_within wd_531 (by decide) dX11_areStrokes_24 rfl rfl (Nat.le_of_ble_eq_true rfl) (jroom (by decide)) rfl (c_within (by omega) (by omega) (by omega) (fun w24 => ?_) (fun w24 => ?_))
      · dsimp only [jpush]
        refine e_if_eq 30 55 dX11_areStrokes_27 (by decide) (by decide) rfl (fun h => absurd h (by decide)) (fun _ => ?_)
        refine e_iload_n (i := 3) 31 dX11_areStrokes_30 rfl rfl rfl ?_
        refine e_iconst 32 dX11_areStrokes_31 rfl ?_
        refine e_bipush 34 dX11_areStrokes_32 (by decide) rfl ?_
        refine e_callS 37 mt_yX11_within ms_yX11_within wd_531 (by decide) dX11_areStrokes_34 rfl rfl (Nat.le_of_ble_eq_true rfl) (jroom (by decide)) rfl (c_within (by omega) (by omega) (by omega) (fun w34 => ?_) (fun w34 => ?_))
        · dsimp only [jpush]
          refine e_if_eq 40 55 dX11_areStrokes_37 (by decide) (by decide) rfl (fun h => absurd h (by decide)) (fun _ => ?_)
          refine e_iload 42 dX11_areStrokes_40 rfl rfl ?_
          refine e_iconst 43 dX11_areStrokes_42 rfl ?_
          refine e_bipush 45 dX11_areStrokes_43 (by decide) rfl ?_
          refine e_callS 48 mt_yX11_within ms_yX11_within wd_531 (by decide) dX11_areStrokes_45 rfl rfl (Nat.le_of_ble_eq_true rfl) (jroom (by decide)) rfl (c_within (by omega) (by omega) (by omega) (fun w45 => ?_) (fun w45 => ?_))
          · dsimp only [jpush]
            refine e_if_eq 51 55 dX11_areStrokes_48 (by decide) (by decide) rfl (fun h => absurd h (by decide)) (fun _ => ?_)
            refine e_iconst 52 dX11_areStrokes_51 rfl ?_
            refine e_goto 56 dX11_areStrokes_52 (by decide) ?_
            refine e_zret dX11_areStrokes_56 (by decide) ?_
            first | exact h1 (by omega) | exact h0 (by omega)
          · dsimp only [jpush]
            refine e_if_eq 51 55 dX11_areStrokes_48 (by decide) (by decide) rfl (fun _ => ?_) (fun h => absurd h (by decide))
            refine e_iconst 56 dX11_areStrokes_55 rfl ?_
            refine e_zret dX11_areStrokes_56 (by decide) ?_
            first | exact h1 (by omega) | exact h0 (by omega)
        · dsimp only [jpush]
          refine e_if_eq 40 55 dX11_areStrokes_37 (by decide) (by decide) rfl (fun _ => ?_) (fun h => absurd h (by decide))
          refine e_iconst 56 dX11_areStrokes_55 rfl ?_
          refine e_zret dX11_areStrokes_56 (by decide) ?_
          first | exact h1 (by omega) | exact h0 (by omega)
      · dsimp only [jpush]
        refine e_if_eq 30 55 dX11_areStrokes_27 (by decide) (by decide) rfl (fun _ => ?_) (fun h => absurd h (by decide))
        refine e_iconst 56 dX11_areStrokes_55 rfl ?_
        refine e_zret dX11_areStrokes_56 (by decide) ?_
        first | exact h1 (by omega) | exact h0 (by omega)
    · dsimp only [jpush]
      refine e_if_eq 20 55 dX11_areStrokes_17 (by decide) (by decide) rfl (fun _ => ?_) (fun h => absurd h (by decide))
      refine e_iconst 56 dX11_areStrokes_55 rfl ?_
      refine e_zret dX11_areStrokes_56 (by decide) ?_
      first | exact h1 (by omega) | exact h0 (by omega)
  · dsimp only [jpush]
    refine e_if_eq 10 55 dX11_areStrokes_7 (by decide) (by decide) rfl (fun _ => ?_) (fun h => absurd h (by decide))
    refine e_iconst 56 dX11_areStrokes_55 rfl ?_
    refine e_zret dX11_areStrokes_56 (by decide) ?_
    first | exact h1 (by omega) | exact h0 (by omega)

theorem m_isHand {a b c d e : Int} {M : jM} {Q : Int → jM → Prop} (ha : -2147483648 ≤ a ∧ a ≤ 2147483647) (hb : -2147483648 ≤ b ∧ b ≤ 2147483647) (hc : -2147483648 ≤ c ∧ c ≤ 2147483647) (hd : -2147483648 ≤ d ∧ d ≤ 2147483647) (he : -2147483648 ≤ e ∧ e ≤ 2147483647) (h1 : ((0 ≤ a ∧ a ≤ 9) ∧ (0 ≤ b ∧ b ≤ 9) ∧ (0 ≤ c ∧ c ≤ 9) ∧ (0 ≤ d ∧ d ≤ 9) ∧ (0 ≤ e ∧ e ≤ 9)) → Q 1 M) (h0 : ¬ ((0 ≤ a ∧ a ≤ 9) ∧ (0 ≤ b ∧ b ≤ 9) ∧ (0 ≤ c ∧ c ≤ 9) ∧ (0 ≤ d ∧ d ≤ 9) ∧ (0 ≤ e ∧ e ≤ 9)) → Q 0 M) : jCt yX12_isHand cX12_isHand 5 (some .boolean) 2 [jI a, jI b, jI c, jI d, jI e] M Q := by
  refine jCt_of mt_yX12_isHand (Nat.le_of_ble_eq_true rfl) (fun X => ?_)
  refine e_iload_n (i := 0) 1 dX12_isHand_0 rfl rfl rfl ?_
  refine e_i2l 2 dX12_isHand_1 (by omega) rfl ?_
  refine e_lconst0 3 dX12_isHand_2 rfl ?_
  refine e_ldc2 (z := (9)) 6 (ix := 209) wd_1495 (by decide) dX12_isHand_3 rfl ?_
  refine e_callS 9 mt_yX12_within ms_yX12_within wd_1390 (by decide) dX12_isHand_6 rfl rfl (Nat.le_of_ble_eq_true rfl) (jroom (by decide)) rfl (m_within (by omega) (by omega) (by omega) (fun w6 => ?_) (fun w6 => ?_))
  · dsimp only [jpush]
    refine e_if_eq 12 65 dX12_isHand_9 (by decide) (by decide) rfl (fun h => absurd h (by decide)) (fun _ => ?_)
    refine e_iload_n (i := 1) 13 dX12_isHand_12 rfl rfl rfl ?_
    refine e_i2l 14 dX12_isHand_13 (by omega) rfl ?_
    refine e_lconst0 15 dX12_isHand_14 rfl ?_
    refine e_ldc2 (z := (9)) 18 (ix := 209) wd_1495 (by decide) dX12_isHand_15 rfl ?_
    refine e_callS 21 mt_yX12_within ms_yX12_within wd_1390 (by decide) dX12_isHand_18 rfl rfl (Nat.le_of_ble_eq_true rfl) (jroom (by decide)) rfl (m_within (by omega) (by omega) (by omega) (fun w18 => ?_) (fun w18 => ?_))
    · dsimp only [jpush]
      refine e_if_eq 24 65 dX12_isHand_21 (by decide) (by decide) rfl (fun h => absurd h (by decide)) (fun _ => ?_)
      refine e_iload_n (i := 2) 25 dX12_isHand_24 rfl rfl rfl ?_
      refine e_i2l 26 dX12_isHand_25 (by omega) rfl ?_
      refine e_lconst0 27 dX12_isHand_26 rfl ?_
      refine e_ldc2 (z := (9)) 30 (ix := 209) wd_1495 (by decide) dX12_isHand_27 rfl ?_
      refine e_callS 33 mt_yX12_within ms_yX12_within wd_1390 (by decide) dX12_isHand_30 rfl rfl (Nat.le_of_ble_eq_true rfl) (jroom (by decide)) rfl (m_within (by omega) (by omega) (by omega) (fun w30 => ?_) (fun w30 => ?_))
      · dsimp only [jpush]
        refine e_if_eq 36 65 dX12_isHand_33 (by decide) (by decide) rfl (fun h => absurd h (by decide)) (fun _ => ?_)
        refine e_iload_n (i := 3) 37 dX12_isHand_36 rfl rfl rfl ?_
        refine e_i2l 38 dX12_isHand_37 (by omega) rfl ?_
        refine e_lconst0 39 dX12_isHand_38 rfl ?_
        refine e_ldc2 (z := (9)) 42 (ix := 209) wd_1495 (by decide) dX12_isHand_39 rfl ?_
        refine e_callS 45 mt_yX12_within ms_yX12_within wd_1390 (by decide) dX12_isHand_42 rfl rfl (Nat.le_of_ble_eq_true rfl) (jroom (by decide)) rfl (m_within (by omega) (by omega) (by omega) (fun w42 => ?_) (fun w42 => ?_))
        · dsimp only [jpush]
          refine e_if_eq 48 65 dX12_isHand_45 (by decide) (by decide) rfl (fun h => absurd h (by decide)) (fun _ => ?_)
          refine e_iload 50 dX12_isHand_48 rfl rfl ?_
          refine e_i2l 51 dX12_isHand_50 (by omega) rfl ?_
          refine e_lconst0 52 dX12_isHand_51 rfl ?_
          refine e_ldc2 (z := (9)) 55 (ix := 209) wd_1495 (by decide) dX12_isHand_52 rfl ?_
          refine e_callS 58 mt_yX12_within ms_yX12_within wd_1390 (by decide) dX12_isHand_55 rfl rfl (Nat.le_of_ble_eq_true rfl) (jroom (by decide)) rfl (m_within (by omega) (by omega) (by omega) (fun w55 => ?_) (fun w55 => ?_))
          · dsimp only [jpush]
            refine e_if_eq 61 65 dX12_isHand_58 (by decide) (by decide) rfl (fun h => absurd h (by decide)) (fun _ => ?_)
            refine e_iconst 62 dX12_isHand_61 rfl ?_
            refine e_goto 66 dX12_isHand_62 (by decide) ?_
            refine e_zret dX12_isHand_66 (by decide) ?_
            first | exact h1 (by omega) | exact h0 (by omega)
          · dsimp only [jpush]
            refine e_if_eq 61 65 dX12_isHand_58 (by decide) (by decide) rfl (fun _ => ?_) (fun h => absurd h (by decide))
            refine e_iconst 66 dX12_isHand_65 rfl ?_
            refine e_zret dX12_isHand_66 (by decide) ?_
            first | exact h1 (by omega) | exact h0 (by omega)
        · dsimp only [jpush]
          refine e_if_eq 48 65 dX12_isHand_45 (by decide) (by decide) rfl (fun _ => ?_) (fun h => absurd h (by decide))
          refine e_iconst 66 dX12_isHand_65 rfl ?_
          refine e_zret dX12_isHand_66 (by decide) ?_
          first | exact h1 (by omega) | exact h0 (by omega)
      · dsimp only [jpush]
        refine e_if_eq 36 65 dX12_isHand_33 (by decide) (by decide) rfl (fun _ => ?_) (fun h => absurd h (by decide))
        refine e_iconst 66 dX12_isHand_65 rfl ?_
        refine e_zret dX12_isHand_66 (by decide) ?_
        first | exact h1 (by omega) | exact h0 (by omega)
    · dsimp only [jpush]
      refine e_if_eq 24 65 dX12_isHand_21 (by decide) (by decide) rfl (fun _ => ?_) (fun h => absurd h (by decide))
      refine e_iconst 66 dX12_isHand_65 rfl ?_
      refine e_zret dX12_isHand_66 (by decide) ?_
      first | exact h1 (by omega) | exact h0 (by omega)
  · dsimp only [jpush]
    refine e_if_eq 12 65 dX12_isHand_9 (by decide) (by decide) rfl (fun _ => ?_) (fun h => absurd h (by decide))
    refine e_iconst 66 dX12_isHand_65 rfl ?_
    refine e_zret dX12_isHand_66 (by decide) ?_
    first | exact h1 (by omega) | exact h0 (by omega)

theorem p_scribe {M : jM} (hI : Inv M) {k : Int} (hk : -2147483648 ≤ k ∧ k ≤ 2147483647) {a : Int} (ha : -2147483648 ≤ a ∧ a ≤ 2147483647) {b : Int} (hb : -2147483648 ≤ b ∧ b ≤ 2147483647) {c : Int} (hc : -2147483648 ≤ c ∧ c ≤ 2147483647) {d : Int} (hd : -2147483648 ≤ d ∧ d ≤ 2147483647) {e : Int} (he : -2147483648 ≤ e ∧ e ≤ 2147483647) : jCt yX11_scribe cX11_scribe 8 (some .int) 3 [jR 0, jI k, jI a, jI b, jI c, jI d, jI e] M (fun z M1 => jCt yX12_scribe cX12_scribe 8 (some .int) 3 [jR 928, jI k, jI a, jI b, jI c, jI d, jI e] M1 (fun z2 M2 => z = z2 ∧ Inv M2)) := by
  have hC := hI.cr
  have hn := hC.cnt
  have hg := hC.rng
  refine jCt_of mt_yX11_scribe (Nat.le_of_ble_eq_true rfl) (fun X => ?_)
  refine e_iload_n (i := 1) 1 dX11_scribe_0 rfl rfl rfl ?_
  refine e_iconst 2 dX11_scribe_1 rfl ?_
  refine e_iconst 3 dX11_scribe_2 rfl ?_
  refine e_callS 6 mt_yX11_within ms_yX11_within wd_531 (by decide) dX11_scribe_3 rfl rfl (Nat.le_of_ble_eq_true rfl) (jroom (by decide)) rfl (c_within (by omega) (by omega) (by omega) (fun w3 => ?_) (fun w3 => ?_))
  · dsimp only [jpush]
    refine e_if_ne 9 12 dX11_scribe_6 (by decide) (by decide) rfl (fun _ => ?_) (fun h => absurd h (by decide))
    refine e_iload_n (i := 2) 13 dX11_scribe_12 rfl rfl rfl ?_
    refine e_iload_n (i := 3) 14 dX11_scribe_13 rfl rfl rfl ?_
    refine e_iload 16 dX11_scribe_14 rfl rfl ?_
    refine e_iload 18 dX11_scribe_16 rfl rfl ?_
    refine e_iload 20 dX11_scribe_18 rfl rfl ?_
    refine e_callS 23 mt_yX11_areStrokes ms_yX11_areStrokes wd_1110 (by decide) dX11_scribe_20 rfl rfl (Nat.le_of_ble_eq_true rfl) (jroom (by decide)) rfl (c_areStrokes (by omega) (by omega) (by omega) (by omega) (by omega) (fun w20 => ?_) (fun w20 => ?_))
    · dsimp only [jpush]
      refine e_if_ne 26 29 dX11_scribe_23 (by decide) (by decide) rfl (fun _ => ?_) (fun h => absurd h (by decide))
      refine e_aload_n (i := 0) 30 dX11_scribe_29 rfl rfl rfl ?_
      refine e_getr (j := 0) 33 fl_11_10 dX11_scribe_30 at_0 rfl rfl tp_0_0 rfl ?_
      refine e_getr (j := 16) 36 fl_11_391 dX11_scribe_33 at_1 rfl rfl tp_1_16 rfl ?_
      refine e_iload_n (i := 1) 37 dX11_scribe_36 rfl rfl rfl ?_
      refine e_aaldi 38 dX11_scribe_37 ar_38 (by omega) (by omega) (tp_handrow (by omega) (by omega)) rfl ?_
      refine e_astore (lsn := [(7, _), (0, _), (1, _), (2, _), (3, _), (4, _), (5, _), (6, _)]) 40 dX11_scribe_38 (by decide) rfl rfl ?_
      refine e_aload 42 dX11_scribe_40 rfl rfl ?_
      refine e_iconst 43 dX11_scribe_42 rfl ?_
      refine e_iload_n (i := 2) 44 dX11_scribe_43 rfl rfl rfl ?_
      refine e_iast 45 dX11_scribe_44 (ar_handrow (by omega) (by omega)) (by decide) (by decide) (by omega) rfl ?_
      refine e_aload 47 dX11_scribe_45 rfl rfl ?_
      refine e_iconst 48 dX11_scribe_47 rfl ?_
      refine e_iload_n (i := 3) 49 dX11_scribe_48 rfl rfl rfl ?_
      refine e_iast 50 dX11_scribe_49 (ar_handrow (by omega) (by omega)) (by decide) (by decide) (by omega) rfl ?_
      refine e_aload 52 dX11_scribe_50 rfl rfl ?_
      refine e_iconst 53 dX11_scribe_52 rfl ?_
      refine e_iload 55 dX11_scribe_53 rfl rfl ?_
      refine e_iast 56 dX11_scribe_55 (ar_handrow (by omega) (by omega)) (by decide) (by decide) (by omega) rfl ?_
      refine e_aload 58 dX11_scribe_56 rfl rfl ?_
      refine e_iconst 59 dX11_scribe_58 rfl ?_
      refine e_iload 61 dX11_scribe_59 rfl rfl ?_
      refine e_iast 62 dX11_scribe_61 (ar_handrow (by omega) (by omega)) (by decide) (by decide) (by omega) rfl ?_
      refine e_aload 64 dX11_scribe_62 rfl rfl ?_
      refine e_iconst 65 dX11_scribe_64 rfl ?_
      refine e_iload 67 dX11_scribe_65 rfl rfl ?_
      refine e_iast 68 dX11_scribe_67 (ar_handrow (by omega) (by omega)) (by decide) (by decide) (by omega) rfl ?_
      refine e_iconst 69 dX11_scribe_68 rfl ?_
      refine e_iret dX11_scribe_69 ?_
      refine mem_gen (P := fun M1 => jCt yX12_scribe cX12_scribe 8 (some .int) 3 [jR 928, jI k, jI a, jI b, jI c, jI d, jI e] M1 (fun z2 M2 => _ = z2 ∧ Inv M2)) (fun M1 hM1 => ?_)
      have hA : M1 929 = M 929 := by rw [hM1]; try (simp (disch := omega) only [jset_row])
      have hT : M1 928 0 = 0 := by rw [hM1]; first | exact hI.1 | (simp (disch := omega) only [jset_k]; exact hI.1)
      refine jCt_of mt_yX12_scribe (Nat.le_of_ble_eq_true rfl) (fun X2 => ?_)
      refine e_aload_n (i := 0) 1 dX12_scribe_0 rfl rfl rfl ?_
      refine e_iconst 2 dX12_scribe_1 rfl ?_
      refine e_put0 (j := 0) 5 fl_12_1 dX12_scribe_2 at_928 rfl rfl rfl (by decide) (by first | exact hT | (simp (disch := omega) only [jset_k, jset_j, jset_same, true_and, and_true, hA]; exact hT)) rfl ?_
      refine e_iload_n (i := 1) 6 dX12_scribe_5 rfl rfl rfl ?_
      refine e_i2l 7 dX12_scribe_6 (by omega) rfl ?_
      refine e_lconst0 8 dX12_scribe_7 rfl ?_
      refine e_ldc2 (z := (3)) 11 (ix := 159) wd_1442 (by decide) dX12_scribe_8 rfl ?_
      refine e_callS 14 mt_yX12_within ms_yX12_within wd_1390 (by decide) dX12_scribe_11 rfl rfl (Nat.le_of_ble_eq_true rfl) (jroom (by decide)) rfl (m_within (by (try simp (disch := omega) only [jset_k, jset_j, jset_same, true_and, and_true, hA]); omega) (by (try simp (disch := omega) only [jset_k, jset_j, jset_same, true_and, and_true, hA]); omega) (by (try simp (disch := omega) only [jset_k, jset_j, jset_same, true_and, and_true, hA]); omega) (fun w11 => ?_) (fun w11 => ?_))
      · dsimp only [jpush]
        (try simp (disch := omega) only [jset_k, jset_j, jset_same, true_and, and_true, hA] at w11)
        (try simp (disch := omega) only [jset_k, jset_j, jset_same, true_and, and_true, hA])
        first
         | (exfalso; omega)
         | (skip
            refine e_if_ne 17 20 dX12_scribe_14 (by decide) (by decide) rfl (fun _ => ?_) (fun h => absurd h (by decide))
            refine e_iload_n (i := 2) 21 dX12_scribe_20 rfl rfl rfl ?_
            refine e_iload_n (i := 3) 22 dX12_scribe_21 rfl rfl rfl ?_
            refine e_iload 24 dX12_scribe_22 rfl rfl ?_
            refine e_iload 26 dX12_scribe_24 rfl rfl ?_
            refine e_iload 28 dX12_scribe_26 rfl rfl ?_
            refine e_callS 31 mt_yX12_isHand ms_yX12_isHand wd_1733 (by decide) dX12_scribe_28 rfl rfl (Nat.le_of_ble_eq_true rfl) (jroom (by decide)) rfl (m_isHand (by (try simp (disch := omega) only [jset_k, jset_j, jset_same, true_and, and_true, hA]); omega) (by (try simp (disch := omega) only [jset_k, jset_j, jset_same, true_and, and_true, hA]); omega) (by (try simp (disch := omega) only [jset_k, jset_j, jset_same, true_and, and_true, hA]); omega) (by (try simp (disch := omega) only [jset_k, jset_j, jset_same, true_and, and_true, hA]); omega) (by (try simp (disch := omega) only [jset_k, jset_j, jset_same, true_and, and_true, hA]); omega) (fun w28 => ?_) (fun w28 => ?_))
            · dsimp only [jpush]
              (try simp (disch := omega) only [jset_k, jset_j, jset_same, true_and, and_true, hA] at w28)
              (try simp (disch := omega) only [jset_k, jset_j, jset_same, true_and, and_true, hA])
              first
               | (exfalso; omega)
               | (skip
                  refine e_if_ne 34 37 dX12_scribe_31 (by decide) (by decide) rfl (fun _ => ?_) (fun h => absurd h (by decide))
                  refine e_sipush 40 dX12_scribe_37 (by decide) rfl ?_
                  refine e_iconst 41 dX12_scribe_40 rfl ?_
                  refine e_iload_n (i := 1) 42 dX12_scribe_41 rfl rfl rfl ?_
                  refine e_imul 43 dX12_scribe_42 rfl ?_
                  refine e_iadd 44 dX12_scribe_43 rfl ?_
                  refine e_istore (lsn := [(7, _), (0, _), (1, _), (2, _), (3, _), (4, _), (5, _), (6, _)]) 46 dX12_scribe_44 (by decide) rfl rfl ?_
                  refine e_aload_n (i := 0) 47 dX12_scribe_46 rfl rfl rfl ?_
                  refine e_getr (j := 1) 50 fl_12_13 dX12_scribe_47 at_928 rfl rfl tp_928_1 rfl ?_
                  refine e_iload 52 dX12_scribe_50 rfl rfl ?_
                  refine e_iload_n (i := 2) 53 dX12_scribe_52 rfl rfl rfl ?_
                  refine e_iast 54 dX12_scribe_53 ar_929 (by omega) (by omega) (by omega) rfl ?_
                  refine e_aload_n (i := 0) 55 dX12_scribe_54 rfl rfl rfl ?_
                  refine e_getr (j := 1) 58 fl_12_13 dX12_scribe_55 at_928 rfl rfl tp_928_1 rfl ?_
                  refine e_iload 60 dX12_scribe_58 rfl rfl ?_
                  refine e_iconst 61 dX12_scribe_60 rfl ?_
                  refine e_iadd 62 dX12_scribe_61 rfl ?_
                  refine e_iload_n (i := 3) 63 dX12_scribe_62 rfl rfl rfl ?_
                  refine e_iast 64 dX12_scribe_63 ar_929 (by omega) (by omega) (by omega) rfl ?_
                  refine e_aload_n (i := 0) 65 dX12_scribe_64 rfl rfl rfl ?_
                  refine e_getr (j := 1) 68 fl_12_13 dX12_scribe_65 at_928 rfl rfl tp_928_1 rfl ?_
                  refine e_iload 70 dX12_scribe_68 rfl rfl ?_
                  refine e_iconst 71 dX12_scribe_70 rfl ?_
                  refine e_iadd 72 dX12_scribe_71 rfl ?_
                  refine e_iload 74 dX12_scribe_72 rfl rfl ?_
                  refine e_iast 75 dX12_scribe_74 ar_929 (by omega) (by omega) (by omega) rfl ?_
                  refine e_aload_n (i := 0) 76 dX12_scribe_75 rfl rfl rfl ?_
                  refine e_getr (j := 1) 79 fl_12_13 dX12_scribe_76 at_928 rfl rfl tp_928_1 rfl ?_
                  refine e_iload 81 dX12_scribe_79 rfl rfl ?_
                  refine e_iconst 82 dX12_scribe_81 rfl ?_
                  refine e_iadd 83 dX12_scribe_82 rfl ?_
                  refine e_iload 85 dX12_scribe_83 rfl rfl ?_
                  refine e_iast 86 dX12_scribe_85 ar_929 (by omega) (by omega) (by omega) rfl ?_
                  refine e_aload_n (i := 0) 87 dX12_scribe_86 rfl rfl rfl ?_
                  refine e_getr (j := 1) 90 fl_12_13 dX12_scribe_87 at_928 rfl rfl tp_928_1 rfl ?_
                  refine e_iload 92 dX12_scribe_90 rfl rfl ?_
                  refine e_iconst 93 dX12_scribe_92 rfl ?_
                  refine e_iadd 94 dX12_scribe_93 rfl ?_
                  refine e_iload 96 dX12_scribe_94 rfl rfl ?_
                  refine e_iast 97 dX12_scribe_96 ar_929 (by omega) (by omega) (by omega) rfl ?_
                  refine e_iconst 98 dX12_scribe_97 rfl ?_
                  refine e_iret dX12_scribe_98 ?_
                  first
                    | (exact ⟨by omega, hI⟩)
                    | (exfalso; omega)
                    | (subst hM1
                       exact ⟨by omega, hI⟩)
                    | ((try subst hM1)
                       refine ⟨by omega, ?_⟩
                       refine hI.live ?_ ?_ ?_
                       · repeat (first | exact Live.rf | refine Live.c ?_ (by omega) | refine Live.r ?_ (by omega) | refine Live.s ?_ (by omega))
                       · refine ⟨?_, ?_, ?_, ?_, ?_, ?_, ?_, ?_, ?_, ?_, ?_⟩
                         · exact hI.2.1.1.fr (fun i hi => by simp (disch := omega) only [jset_k, jset_j, jset_same, true_and, and_true])
                         · exact hI.2.1.2.1.fr (fun i a b => by simp (disch := omega) only [jset_k, jset_j, jset_same, true_and, and_true])
                         · exact hI.2.1.2.2.1.fr (fun i a b => by simp (disch := omega) only [jset_k, jset_j, jset_same, true_and, and_true])
                         · exact hI.2.1.2.2.2.1.fr (by omega) (fun i a b => by simp (disch := omega) only [jset_k, jset_j, jset_same, true_and, and_true])
                         · exact hI.2.1.2.2.2.2.1.fr (by omega) (fun i a b => by simp (disch := omega) only [jset_k, jset_j, jset_same, true_and, and_true]) (fun i a b => by simp (disch := omega) only [jset_k, jset_j, jset_same, true_and, and_true])
                         · exact hI.2.1.2.2.2.2.2.1.fr (by omega) (fun i a b => by simp (disch := omega) only [jset_k, jset_j, jset_same, true_and, and_true]) (fun i a b => by simp (disch := omega) only [jset_k, jset_j, jset_same, true_and, and_true]) (by simp (disch := omega) only [jset_k, jset_j, jset_same, true_and, and_true]; omega)
                         · exact hI.2.1.2.2.2.2.2.2.1.fr (by omega) (by simp (disch := omega) only [jset_k, jset_j, jset_same, true_and, and_true]) (fun i a b => by simp (disch := omega) only [jset_k, jset_j, jset_same, true_and, and_true])
                         · exact hI.2.1.2.2.2.2.2.2.2.1.fr (by omega) (fun i a b => by simp (disch := omega) only [jset_k, jset_j, jset_same, true_and, and_true]) (fun i a b => by simp (disch := omega) only [jset_k, jset_j, jset_same, true_and, and_true]) (by simp (disch := omega) only [jset_k, jset_j, jset_same, true_and, and_true]; omega)
                         · exact hI.2.1.2.2.2.2.2.2.2.2.1.fr (by omega) (fun i a b => by simp (disch := omega) only [jset_k, jset_j, jset_same, true_and, and_true])
                         · intro i h0 h1
                           have h := hI.2.1.2.2.2.2.2.2.2.2.2.1 i h0 h1
                           by_cases q : 5 * k ≤ i ∧ i < 5 * k + 5
                           · have q2 : i = 5 * k ∨ i = 5 * k + 1 ∨ i = 5 * k + 2 ∨ i = 5 * k + 3 ∨ i = 5 * k + 4 := by omega
                             rcases q2 with q2 | q2 | q2 | q2 | q2
                             · have e0 : 3588 + i = 3588 + 5 * k := by omega
                               rw [e0]
                               simp (disch := omega) only [jset_k, jset_j, jset_same, true_and, and_true]
                               omega
                             · have e1 : 3588 + i = 3588 + 5 * k + 1 := by omega
                               rw [e1]
                               simp (disch := omega) only [jset_k, jset_j, jset_same, true_and, and_true]
                               omega
                             · have e2 : 3588 + i = 3588 + 5 * k + 2 := by omega
                               rw [e2]
                               simp (disch := omega) only [jset_k, jset_j, jset_same, true_and, and_true]
                               omega
                             · have e3 : 3588 + i = 3588 + 5 * k + 3 := by omega
                               rw [e3]
                               simp (disch := omega) only [jset_k, jset_j, jset_same, true_and, and_true]
                               omega
                             · have e4 : 3588 + i = 3588 + 5 * k + 4 := by omega
                               rw [e4]
                               simp (disch := omega) only [jset_k, jset_j, jset_same, true_and, and_true]
                               omega
                           · simp (disch := omega) only [jset_k, jset_j, jset_same, true_and, and_true]
                             exact h
                         · exact hI.2.1.2.2.2.2.2.2.2.2.2.2.fr (fun i a b => by simp (disch := omega) only [jset_k, jset_j, jset_same, true_and, and_true])
                       · refine ⟨?_, ?_, ?_, ?_, ?_, ?_, ?_, ?_, ?_, ?_, ?_, ?_⟩
                         · exact hI.2.2.1.1.fr (fun j => by show _ = M (1 + 0) j; unfold cv; simp (disch := omega) only [jset_k, jset_j, jset_same, true_and, and_true]) (fun i hi => by simp (disch := omega) only [jset_k, jset_j, jset_same, true_and, and_true])
                         · exact hI.2.2.1.2.1.fr hI.2.1.2.1 (by omega) (fun k j a b => by show _ = M (1 + k) j; unfold cv; simp (disch := omega) only [jset_k, jset_j, jset_same, true_and, and_true]) (fun i a b => by simp (disch := omega) only [jset_k, jset_j, jset_same, true_and, and_true])
                         · exact hI.2.2.1.2.2.1.fr hI.2.1.2.2.1 (by omega) (fun k j a b => by show _ = M (1 + k) j; unfold cv; simp (disch := omega) only [jset_k, jset_j, jset_same, true_and, and_true]) (fun i a b => by simp (disch := omega) only [jset_k, jset_j, jset_same, true_and, and_true])
                         · exact hI.2.2.1.2.2.2.1.fr (by omega) (fun k j a b => by show _ = M (1 + k) j; unfold cv; simp (disch := omega) only [jset_k, jset_j, jset_same, true_and, and_true]) (fun i a b => by simp (disch := omega) only [jset_k, jset_j, jset_same, true_and, and_true])
                         · exact hI.2.2.1.2.2.2.2.1.fr (by omega) (fun k j a b => by show _ = M (1 + k) j; unfold cv; simp (disch := omega) only [jset_k, jset_j, jset_same, true_and, and_true]) (fun i a b => by simp (disch := omega) only [jset_k, jset_j, jset_same, true_and, and_true]) (fun i a b => by simp (disch := omega) only [jset_k, jset_j, jset_same, true_and, and_true])
                         · exact hI.2.2.1.2.2.2.2.2.1.fr (by omega) (fun k j a b => by show _ = M (1 + k) j; unfold cv; simp (disch := omega) only [jset_k, jset_j, jset_same, true_and, and_true]) (fun i a b => by simp (disch := omega) only [jset_k, jset_j, jset_same, true_and, and_true]) (fun i a b => by simp (disch := omega) only [jset_k, jset_j, jset_same, true_and, and_true])
                         · exact hI.2.2.1.2.2.2.2.2.2.1.fr (by omega) (fun k j a b => by show _ = M (1 + k) j; unfold cv; simp (disch := omega) only [jset_k, jset_j, jset_same, true_and, and_true]) (fun i a b => by simp (disch := omega) only [jset_k, jset_j, jset_same, true_and, and_true]) (fun i a b => by simp (disch := omega) only [jset_k, jset_j, jset_same, true_and, and_true])
                         · exact hI.2.2.1.2.2.2.2.2.2.2.1.fr (by omega) (fun k j a b => by show _ = M (1 + k) j; unfold cv; simp (disch := omega) only [jset_k, jset_j, jset_same, true_and, and_true]) (fun i a b => by simp (disch := omega) only [jset_k, jset_j, jset_same, true_and, and_true])
                         · exact hI.2.2.1.2.2.2.2.2.2.2.2.1.fr (fun k j a b => by show _ = M (1 + k) j; unfold cv; simp (disch := omega) only [jset_k, jset_j, jset_same, true_and, and_true]) (fun i a b => by simp (disch := omega) only [jset_k, jset_j, jset_same, true_and, and_true])
                         · intro k2 j h0 h1 h2 h3
                           simp only [cv1, Int.reduceAdd]
                           have h := (hC.hd h0 h1 h2 h3).1
                           by_cases q : k2 = k
                           · subst q
                             have q2 : j = 0 ∨ j = 1 ∨ j = 2 ∨ j = 3 ∨ j = 4 := by omega
                             rcases q2 with q2 | q2 | q2 | q2 | q2 <;> subst q2 <;> (try rw [Int.add_zero]) <;> simp (disch := omega) only [jset_k, jset_j, jset_same, true_and, and_true]
                           · simp (disch := omega) only [jset_k, jset_j, jset_same, true_and, and_true]
                             exact h
                         · exact hI.2.2.1.2.2.2.2.2.2.2.2.2.2.1.fr (by omega) (fun k j a b => by show _ = M (1 + k) j; unfold cv; simp (disch := omega) only [jset_k, jset_j, jset_same, true_and, and_true]) (fun i a b => by simp (disch := omega) only [jset_k, jset_j, jset_same, true_and, and_true])
                         · exact hI.2.2.1.2.2.2.2.2.2.2.2.2.2.2.fr hI.2.1.2.2.2.2.2.2.2.2.2.2 (fun k j a b => by show _ = M (1 + k) j; unfold cv; simp (disch := omega) only [jset_k, jset_j, jset_same, true_and, and_true]) (fun i a b => by simp (disch := omega) only [jset_k, jset_j, jset_same, true_and, and_true])))
            · dsimp only [jpush]
              (try simp (disch := omega) only [jset_k, jset_j, jset_same, true_and, and_true, hA] at w28)
              (try simp (disch := omega) only [jset_k, jset_j, jset_same, true_and, and_true, hA])
              first
               | (exfalso; omega)
               | (skip
                  refine e_if_ne 34 37 dX12_scribe_31 (by decide) (by decide) rfl (fun h => absurd h (by decide)) (fun _ => ?_)
                  refine e_bipush 36 dX12_scribe_34 (by decide) rfl ?_
                  refine e_iret dX12_scribe_36 ?_
                  first
                    | (exact ⟨by omega, hI⟩)
                    | (exfalso; omega)
                    | (subst hM1
                       exact ⟨by omega, hI⟩)
                    | ((try subst hM1)
                       refine ⟨by omega, ?_⟩
                       refine hI.live ?_ ?_ ?_
                       · repeat (first | exact Live.rf | refine Live.c ?_ (by omega) | refine Live.r ?_ (by omega) | refine Live.s ?_ (by omega))
                       · refine ⟨?_, ?_, ?_, ?_, ?_, ?_, ?_, ?_, ?_, ?_, ?_⟩
                         · exact hI.2.1.1.fr (fun i hi => by simp (disch := omega) only [jset_k, jset_j, jset_same, true_and, and_true])
                         · exact hI.2.1.2.1.fr (fun i a b => by simp (disch := omega) only [jset_k, jset_j, jset_same, true_and, and_true])
                         · exact hI.2.1.2.2.1.fr (fun i a b => by simp (disch := omega) only [jset_k, jset_j, jset_same, true_and, and_true])
                         · exact hI.2.1.2.2.2.1.fr (by omega) (fun i a b => by simp (disch := omega) only [jset_k, jset_j, jset_same, true_and, and_true])
                         · exact hI.2.1.2.2.2.2.1.fr (by omega) (fun i a b => by simp (disch := omega) only [jset_k, jset_j, jset_same, true_and, and_true]) (fun i a b => by simp (disch := omega) only [jset_k, jset_j, jset_same, true_and, and_true])
                         · exact hI.2.1.2.2.2.2.2.1.fr (by omega) (fun i a b => by simp (disch := omega) only [jset_k, jset_j, jset_same, true_and, and_true]) (fun i a b => by simp (disch := omega) only [jset_k, jset_j, jset_same, true_and, and_true]) (by simp (disch := omega) only [jset_k, jset_j, jset_same, true_and, and_true]; omega)
                         · exact hI.2.1.2.2.2.2.2.2.1.fr (by omega) (by simp (disch := omega) only [jset_k, jset_j, jset_same, true_and, and_true]) (fun i a b => by simp (disch := omega) only [jset_k, jset_j, jset_same, true_and, and_true])
                         · exact hI.2.1.2.2.2.2.2.2.2.1.fr (by omega) (fun i a b => by simp (disch := omega) only [jset_k, jset_j, jset_same, true_and, and_true]) (fun i a b => by simp (disch := omega) only [jset_k, jset_j, jset_same, true_and, and_true]) (by simp (disch := omega) only [jset_k, jset_j, jset_same, true_and, and_true]; omega)
                         · exact hI.2.1.2.2.2.2.2.2.2.2.1.fr (by omega) (fun i a b => by simp (disch := omega) only [jset_k, jset_j, jset_same, true_and, and_true])
                         · intro i h0 h1
                           have h := hI.2.1.2.2.2.2.2.2.2.2.2.1 i h0 h1
                           by_cases q : 5 * k ≤ i ∧ i < 5 * k + 5
                           · have q2 : i = 5 * k ∨ i = 5 * k + 1 ∨ i = 5 * k + 2 ∨ i = 5 * k + 3 ∨ i = 5 * k + 4 := by omega
                             rcases q2 with q2 | q2 | q2 | q2 | q2
                             · have e0 : 3588 + i = 3588 + 5 * k := by omega
                               rw [e0]
                               simp (disch := omega) only [jset_k, jset_j, jset_same, true_and, and_true]
                               omega
                             · have e1 : 3588 + i = 3588 + 5 * k + 1 := by omega
                               rw [e1]
                               simp (disch := omega) only [jset_k, jset_j, jset_same, true_and, and_true]
                               omega
                             · have e2 : 3588 + i = 3588 + 5 * k + 2 := by omega
                               rw [e2]
                               simp (disch := omega) only [jset_k, jset_j, jset_same, true_and, and_true]
                               omega
                             · have e3 : 3588 + i = 3588 + 5 * k + 3 := by omega
                               rw [e3]
                               simp (disch := omega) only [jset_k, jset_j, jset_same, true_and, and_true]
                               omega
                             · have e4 : 3588 + i = 3588 + 5 * k + 4 := by omega
                               rw [e4]
                               simp (disch := omega) only [jset_k, jset_j, jset_same, true_and, and_true]
                               omega
                           · simp (disch := omega) only [jset_k, jset_j, jset_same, true_and, and_true]
                             exact h
                         · exact hI.2.1.2.2.2.2.2.2.2.2.2.2.fr (fun i a b => by simp (disch := omega) only [jset_k, jset_j, jset_same, true_and, and_true])
                       · refine ⟨?_, ?_, ?_, ?_, ?_, ?_, ?_, ?_, ?_, ?_, ?_, ?_⟩
                         · exact hI.2.2.1.1.fr (fun j => by show _ = M (1 + 0) j; unfold cv; simp (disch := omega) only [jset_k, jset_j, jset_same, true_and, and_true]) (fun i hi => by simp (disch := omega) only [jset_k, jset_j, jset_same, true_and, and_true])
                         · exact hI.2.2.1.2.1.fr hI.2.1.2.1 (by omega) (fun k j a b => by show _ = M (1 + k) j; unfold cv; simp (disch := omega) only [jset_k, jset_j, jset_same, true_and, and_true]) (fun i a b => by simp (disch := omega) only [jset_k, jset_j, jset_same, true_and, and_true])
                         · exact hI.2.2.1.2.2.1.fr hI.2.1.2.2.1 (by omega) (fun k j a b => by show _ = M (1 + k) j; unfold cv; simp (disch := omega) only [jset_k, jset_j, jset_same, true_and, and_true]) (fun i a b => by simp (disch := omega) only [jset_k, jset_j, jset_same, true_and, and_true])
                         · exact hI.2.2.1.2.2.2.1.fr (by omega) (fun k j a b => by show _ = M (1 + k) j; unfold cv; simp (disch := omega) only [jset_k, jset_j, jset_same, true_and, and_true]) (fun i a b => by simp (disch := omega) only [jset_k, jset_j, jset_same, true_and, and_true])
                         · exact hI.2.2.1.2.2.2.2.1.fr (by omega) (fun k j a b => by show _ = M (1 + k) j; unfold cv; simp (disch := omega) only [jset_k, jset_j, jset_same, true_and, and_true]) (fun i a b => by simp (disch := omega) only [jset_k, jset_j, jset_same, true_and, and_true]) (fun i a b => by simp (disch := omega) only [jset_k, jset_j, jset_same, true_and, and_true])
                         · exact hI.2.2.1.2.2.2.2.2.1.fr (by omega) (fun k j a b => by show _ = M (1 + k) j; unfold cv; simp (disch := omega) only [jset_k, jset_j, jset_same, true_and, and_true]) (fun i a b => by simp (disch := omega) only [jset_k, jset_j, jset_same, true_and, and_true]) (fun i a b => by simp (disch := omega) only [jset_k, jset_j, jset_same, true_and, and_true])
                         · exact hI.2.2.1.2.2.2.2.2.2.1.fr (by omega) (fun k j a b => by show _ = M (1 + k) j; unfold cv; simp (disch := omega) only [jset_k, jset_j, jset_same, true_and, and_true]) (fun i a b => by simp (disch := omega) only [jset_k, jset_j, jset_same, true_and, and_true]) (fun i a b => by simp (disch := omega) only [jset_k, jset_j, jset_same, true_and, and_true])
                         · exact hI.2.2.1.2.2.2.2.2.2.2.1.fr (by omega) (fun k j a b => by show _ = M (1 + k) j; unfold cv; simp (disch := omega) only [jset_k, jset_j, jset_same, true_and, and_true]) (fun i a b => by simp (disch := omega) only [jset_k, jset_j, jset_same, true_and, and_true])
                         · exact hI.2.2.1.2.2.2.2.2.2.2.2.1.fr (fun k j a b => by show _ = M (1 + k) j; unfold cv; simp (disch := omega) only [jset_k, jset_j, jset_same, true_and, and_true]) (fun i a b => by simp (disch := omega) only [jset_k, jset_j, jset_same, true_and, and_true])
                         · intro k2 j h0 h1 h2 h3
                           simp only [cv1, Int.reduceAdd]
                           have h := (hC.hd h0 h1 h2 h3).1
                           by_cases q : k2 = k
                           · subst q
                             have q2 : j = 0 ∨ j = 1 ∨ j = 2 ∨ j = 3 ∨ j = 4 := by omega
                             rcases q2 with q2 | q2 | q2 | q2 | q2 <;> subst q2 <;> (try rw [Int.add_zero]) <;> simp (disch := omega) only [jset_k, jset_j, jset_same, true_and, and_true]
                           · simp (disch := omega) only [jset_k, jset_j, jset_same, true_and, and_true]
                             exact h
                         · exact hI.2.2.1.2.2.2.2.2.2.2.2.2.2.1.fr (by omega) (fun k j a b => by show _ = M (1 + k) j; unfold cv; simp (disch := omega) only [jset_k, jset_j, jset_same, true_and, and_true]) (fun i a b => by simp (disch := omega) only [jset_k, jset_j, jset_same, true_and, and_true])
                         · exact hI.2.2.1.2.2.2.2.2.2.2.2.2.2.2.fr hI.2.1.2.2.2.2.2.2.2.2.2.2 (fun k j a b => by show _ = M (1 + k) j; unfold cv; simp (disch := omega) only [jset_k, jset_j, jset_same, true_and, and_true]) (fun i a b => by simp (disch := omega) only [jset_k, jset_j, jset_same, true_and, and_true]))))
      · dsimp only [jpush]
        (try simp (disch := omega) only [jset_k, jset_j, jset_same, true_and, and_true, hA] at w11)
        (try simp (disch := omega) only [jset_k, jset_j, jset_same, true_and, and_true, hA])
        first
         | (exfalso; omega)
         | (skip
            refine e_if_ne 17 20 dX12_scribe_14 (by decide) (by decide) rfl (fun h => absurd h (by decide)) (fun _ => ?_)
            refine e_bipush 19 dX12_scribe_17 (by decide) rfl ?_
            refine e_iret dX12_scribe_19 ?_
            first
              | (exact ⟨by omega, hI⟩)
              | (exfalso; omega)
              | (subst hM1
                 exact ⟨by omega, hI⟩)
              | ((try subst hM1)
                 refine ⟨by omega, ?_⟩
                 refine hI.live ?_ ?_ ?_
                 · repeat (first | exact Live.rf | refine Live.c ?_ (by omega) | refine Live.r ?_ (by omega) | refine Live.s ?_ (by omega))
                 · refine ⟨?_, ?_, ?_, ?_, ?_, ?_, ?_, ?_, ?_, ?_, ?_⟩
                   · exact hI.2.1.1.fr (fun i hi => by simp (disch := omega) only [jset_k, jset_j, jset_same, true_and, and_true])
                   · exact hI.2.1.2.1.fr (fun i a b => by simp (disch := omega) only [jset_k, jset_j, jset_same, true_and, and_true])
                   · exact hI.2.1.2.2.1.fr (fun i a b => by simp (disch := omega) only [jset_k, jset_j, jset_same, true_and, and_true])
                   · exact hI.2.1.2.2.2.1.fr (by omega) (fun i a b => by simp (disch := omega) only [jset_k, jset_j, jset_same, true_and, and_true])
                   · exact hI.2.1.2.2.2.2.1.fr (by omega) (fun i a b => by simp (disch := omega) only [jset_k, jset_j, jset_same, true_and, and_true]) (fun i a b => by simp (disch := omega) only [jset_k, jset_j, jset_same, true_and, and_true])
                   · exact hI.2.1.2.2.2.2.2.1.fr (by omega) (fun i a b => by simp (disch := omega) only [jset_k, jset_j, jset_same, true_and, and_true]) (fun i a b => by simp (disch := omega) only [jset_k, jset_j, jset_same, true_and, and_true]) (by simp (disch := omega) only [jset_k, jset_j, jset_same, true_and, and_true]; omega)
                   · exact hI.2.1.2.2.2.2.2.2.1.fr (by omega) (by simp (disch := omega) only [jset_k, jset_j, jset_same, true_and, and_true]) (fun i a b => by simp (disch := omega) only [jset_k, jset_j, jset_same, true_and, and_true])
                   · exact hI.2.1.2.2.2.2.2.2.2.1.fr (by omega) (fun i a b => by simp (disch := omega) only [jset_k, jset_j, jset_same, true_and, and_true]) (fun i a b => by simp (disch := omega) only [jset_k, jset_j, jset_same, true_and, and_true]) (by simp (disch := omega) only [jset_k, jset_j, jset_same, true_and, and_true]; omega)
                   · exact hI.2.1.2.2.2.2.2.2.2.2.1.fr (by omega) (fun i a b => by simp (disch := omega) only [jset_k, jset_j, jset_same, true_and, and_true])
                   · intro i h0 h1
                     have h := hI.2.1.2.2.2.2.2.2.2.2.2.1 i h0 h1
                     by_cases q : 5 * k ≤ i ∧ i < 5 * k + 5
                     · have q2 : i = 5 * k ∨ i = 5 * k + 1 ∨ i = 5 * k + 2 ∨ i = 5 * k + 3 ∨ i = 5 * k + 4 := by omega
                       rcases q2 with q2 | q2 | q2 | q2 | q2
                       · have e0 : 3588 + i = 3588 + 5 * k := by omega
                         rw [e0]
                         simp (disch := omega) only [jset_k, jset_j, jset_same, true_and, and_true]
                         omega
                       · have e1 : 3588 + i = 3588 + 5 * k + 1 := by omega
                         rw [e1]
                         simp (disch := omega) only [jset_k, jset_j, jset_same, true_and, and_true]
                         omega
                       · have e2 : 3588 + i = 3588 + 5 * k + 2 := by omega
                         rw [e2]
                         simp (disch := omega) only [jset_k, jset_j, jset_same, true_and, and_true]
                         omega
                       · have e3 : 3588 + i = 3588 + 5 * k + 3 := by omega
                         rw [e3]
                         simp (disch := omega) only [jset_k, jset_j, jset_same, true_and, and_true]
                         omega
                       · have e4 : 3588 + i = 3588 + 5 * k + 4 := by omega
                         rw [e4]
                         simp (disch := omega) only [jset_k, jset_j, jset_same, true_and, and_true]
                         omega
                     · simp (disch := omega) only [jset_k, jset_j, jset_same, true_and, and_true]
                       exact h
                   · exact hI.2.1.2.2.2.2.2.2.2.2.2.2.fr (fun i a b => by simp (disch := omega) only [jset_k, jset_j, jset_same, true_and, and_true])
                 · refine ⟨?_, ?_, ?_, ?_, ?_, ?_, ?_, ?_, ?_, ?_, ?_, ?_⟩
                   · exact hI.2.2.1.1.fr (fun j => by show _ = M (1 + 0) j; unfold cv; simp (disch := omega) only [jset_k, jset_j, jset_same, true_and, and_true]) (fun i hi => by simp (disch := omega) only [jset_k, jset_j, jset_same, true_and, and_true])
                   · exact hI.2.2.1.2.1.fr hI.2.1.2.1 (by omega) (fun k j a b => by show _ = M (1 + k) j; unfold cv; simp (disch := omega) only [jset_k, jset_j, jset_same, true_and, and_true]) (fun i a b => by simp (disch := omega) only [jset_k, jset_j, jset_same, true_and, and_true])
                   · exact hI.2.2.1.2.2.1.fr hI.2.1.2.2.1 (by omega) (fun k j a b => by show _ = M (1 + k) j; unfold cv; simp (disch := omega) only [jset_k, jset_j, jset_same, true_and, and_true]) (fun i a b => by simp (disch := omega) only [jset_k, jset_j, jset_same, true_and, and_true])
                   · exact hI.2.2.1.2.2.2.1.fr (by omega) (fun k j a b => by show _ = M (1 + k) j; unfold cv; simp (disch := omega) only [jset_k, jset_j, jset_same, true_and, and_true]) (fun i a b => by simp (disch := omega) only [jset_k, jset_j, jset_same, true_and, and_true])
                   · exact hI.2.2.1.2.2.2.2.1.fr (by omega) (fun k j a b => by show _ = M (1 + k) j; unfold cv; simp (disch := omega) only [jset_k, jset_j, jset_same, true_and, and_true]) (fun i a b => by simp (disch := omega) only [jset_k, jset_j, jset_same, true_and, and_true]) (fun i a b => by simp (disch := omega) only [jset_k, jset_j, jset_same, true_and, and_true])
                   · exact hI.2.2.1.2.2.2.2.2.1.fr (by omega) (fun k j a b => by show _ = M (1 + k) j; unfold cv; simp (disch := omega) only [jset_k, jset_j, jset_same, true_and, and_true]) (fun i a b => by simp (disch := omega) only [jset_k, jset_j, jset_same, true_and, and_true]) (fun i a b => by simp (disch := omega) only [jset_k, jset_j, jset_same, true_and, and_true])
                   · exact hI.2.2.1.2.2.2.2.2.2.1.fr (by omega) (fun k j a b => by show _ = M (1 + k) j; unfold cv; simp (disch := omega) only [jset_k, jset_j, jset_same, true_and, and_true]) (fun i a b => by simp (disch := omega) only [jset_k, jset_j, jset_same, true_and, and_true]) (fun i a b => by simp (disch := omega) only [jset_k, jset_j, jset_same, true_and, and_true])
                   · exact hI.2.2.1.2.2.2.2.2.2.2.1.fr (by omega) (fun k j a b => by show _ = M (1 + k) j; unfold cv; simp (disch := omega) only [jset_k, jset_j, jset_same, true_and, and_true]) (fun i a b => by simp (disch := omega) only [jset_k, jset_j, jset_same, true_and, and_true])
                   · exact hI.2.2.1.2.2.2.2.2.2.2.2.1.fr (fun k j a b => by show _ = M (1 + k) j; unfold cv; simp (disch := omega) only [jset_k, jset_j, jset_same, true_and, and_true]) (fun i a b => by simp (disch := omega) only [jset_k, jset_j, jset_same, true_and, and_true])
                   · intro k2 j h0 h1 h2 h3
                     simp only [cv1, Int.reduceAdd]
                     have h := (hC.hd h0 h1 h2 h3).1
                     by_cases q : k2 = k
                     · subst q
                       have q2 : j = 0 ∨ j = 1 ∨ j = 2 ∨ j = 3 ∨ j = 4 := by omega
                       rcases q2 with q2 | q2 | q2 | q2 | q2 <;> subst q2 <;> (try rw [Int.add_zero]) <;> simp (disch := omega) only [jset_k, jset_j, jset_same, true_and, and_true]
                     · simp (disch := omega) only [jset_k, jset_j, jset_same, true_and, and_true]
                       exact h
                   · exact hI.2.2.1.2.2.2.2.2.2.2.2.2.2.1.fr (by omega) (fun k j a b => by show _ = M (1 + k) j; unfold cv; simp (disch := omega) only [jset_k, jset_j, jset_same, true_and, and_true]) (fun i a b => by simp (disch := omega) only [jset_k, jset_j, jset_same, true_and, and_true])
                   · exact hI.2.2.1.2.2.2.2.2.2.2.2.2.2.2.fr hI.2.1.2.2.2.2.2.2.2.2.2.2 (fun k j a b => by show _ = M (1 + k) j; unfold cv; simp (disch := omega) only [jset_k, jset_j, jset_same, true_and, and_true]) (fun i a b => by simp (disch := omega) only [jset_k, jset_j, jset_same, true_and, and_true])))
    · dsimp only [jpush]
      refine e_if_ne 26 29 dX11_scribe_23 (by decide) (by decide) rfl (fun h => absurd h (by decide)) (fun _ => ?_)
      refine e_bipush 28 dX11_scribe_26 (by decide) rfl ?_
      refine e_iret dX11_scribe_28 ?_
      refine jCt_of mt_yX12_scribe (Nat.le_of_ble_eq_true rfl) (fun X2 => ?_)
      refine e_aload_n (i := 0) 1 dX12_scribe_0 rfl rfl rfl ?_
      refine e_iconst 2 dX12_scribe_1 rfl ?_
      refine e_put0 (j := 0) 5 fl_12_1 dX12_scribe_2 at_928 rfl rfl rfl (by decide) hI.1 rfl ?_
      refine e_iload_n (i := 1) 6 dX12_scribe_5 rfl rfl rfl ?_
      refine e_i2l 7 dX12_scribe_6 (by omega) rfl ?_
      refine e_lconst0 8 dX12_scribe_7 rfl ?_
      refine e_ldc2 (z := (3)) 11 (ix := 159) wd_1442 (by decide) dX12_scribe_8 rfl ?_
      refine e_callS 14 mt_yX12_within ms_yX12_within wd_1390 (by decide) dX12_scribe_11 rfl rfl (Nat.le_of_ble_eq_true rfl) (jroom (by decide)) rfl (m_within (by omega) (by omega) (by omega) (fun w11 => ?_) (fun w11 => ?_))
      · dsimp only [jpush]
        first
         | (exfalso; omega)
         | (skip
            refine e_if_ne 17 20 dX12_scribe_14 (by decide) (by decide) rfl (fun _ => ?_) (fun h => absurd h (by decide))
            refine e_iload_n (i := 2) 21 dX12_scribe_20 rfl rfl rfl ?_
            refine e_iload_n (i := 3) 22 dX12_scribe_21 rfl rfl rfl ?_
            refine e_iload 24 dX12_scribe_22 rfl rfl ?_
            refine e_iload 26 dX12_scribe_24 rfl rfl ?_
            refine e_iload 28 dX12_scribe_26 rfl rfl ?_
            refine e_callS 31 mt_yX12_isHand ms_yX12_isHand wd_1733 (by decide) dX12_scribe_28 rfl rfl (Nat.le_of_ble_eq_true rfl) (jroom (by decide)) rfl (m_isHand (by omega) (by omega) (by omega) (by omega) (by omega) (fun w28 => ?_) (fun w28 => ?_))
            · dsimp only [jpush]
              first
               | (exfalso; omega)
               | (skip
                  refine e_if_ne 34 37 dX12_scribe_31 (by decide) (by decide) rfl (fun _ => ?_) (fun h => absurd h (by decide))
                  refine e_sipush 40 dX12_scribe_37 (by decide) rfl ?_
                  refine e_iconst 41 dX12_scribe_40 rfl ?_
                  refine e_iload_n (i := 1) 42 dX12_scribe_41 rfl rfl rfl ?_
                  refine e_imul 43 dX12_scribe_42 rfl ?_
                  refine e_iadd 44 dX12_scribe_43 rfl ?_
                  refine e_istore (lsn := [(7, _), (0, _), (1, _), (2, _), (3, _), (4, _), (5, _), (6, _)]) 46 dX12_scribe_44 (by decide) rfl rfl ?_
                  refine e_aload_n (i := 0) 47 dX12_scribe_46 rfl rfl rfl ?_
                  refine e_getr (j := 1) 50 fl_12_13 dX12_scribe_47 at_928 rfl rfl tp_928_1 rfl ?_
                  refine e_iload 52 dX12_scribe_50 rfl rfl ?_
                  refine e_iload_n (i := 2) 53 dX12_scribe_52 rfl rfl rfl ?_
                  refine e_iast 54 dX12_scribe_53 ar_929 (by omega) (by omega) (by omega) rfl ?_
                  refine e_aload_n (i := 0) 55 dX12_scribe_54 rfl rfl rfl ?_
                  refine e_getr (j := 1) 58 fl_12_13 dX12_scribe_55 at_928 rfl rfl tp_928_1 rfl ?_
                  refine e_iload 60 dX12_scribe_58 rfl rfl ?_
                  refine e_iconst 61 dX12_scribe_60 rfl ?_
                  refine e_iadd 62 dX12_scribe_61 rfl ?_
                  refine e_iload_n (i := 3) 63 dX12_scribe_62 rfl rfl rfl ?_
                  refine e_iast 64 dX12_scribe_63 ar_929 (by omega) (by omega) (by omega) rfl ?_
                  refine e_aload_n (i := 0) 65 dX12_scribe_64 rfl rfl rfl ?_
                  refine e_getr (j := 1) 68 fl_12_13 dX12_scribe_65 at_928 rfl rfl tp_928_1 rfl ?_
                  refine e_iload 70 dX12_scribe_68 rfl rfl ?_
                  refine e_iconst 71 dX12_scribe_70 rfl ?_
                  refine e_iadd 72 dX12_scribe_71 rfl ?_
                  refine e_iload 74 dX12_scribe_72 rfl rfl ?_
                  refine e_iast 75 dX12_scribe_74 ar_929 (by omega) (by omega) (by omega) rfl ?_
                  refine e_aload_n (i := 0) 76 dX12_scribe_75 rfl rfl rfl ?_
                  refine e_getr (j := 1) 79 fl_12_13 dX12_scribe_76 at_928 rfl rfl tp_928_1 rfl ?_
                  refine e_iload 81 dX12_scribe_79 rfl rfl ?_
                  refine e_iconst 82 dX12_scribe_81 rfl ?_
                  refine e_iadd 83 dX12_scribe_82 rfl ?_
                  refine e_iload 85 dX12_scribe_83 rfl rfl ?_
                  refine e_iast 86 dX12_scribe_85 ar_929 (by omega) (by omega) (by omega) rfl ?_
                  refine e_aload_n (i := 0) 87 dX12_scribe_86 rfl rfl rfl ?_
                  refine e_getr (j := 1) 90 fl_12_13 dX12_scribe_87 at_928 rfl rfl tp_928_1 rfl ?_
                  refine e_iload 92 dX12_scribe_90 rfl rfl ?_
                  refine e_iconst 93 dX12_scribe_92 rfl ?_
                  refine e_iadd 94 dX12_scribe_93 rfl ?_
                  refine e_iload 96 dX12_scribe_94 rfl rfl ?_
                  refine e_iast 97 dX12_scribe_96 ar_929 (by omega) (by omega) (by omega) rfl ?_
                  refine e_iconst 98 dX12_scribe_97 rfl ?_
                  refine e_iret dX12_scribe_98 ?_
                  first
                    | (exact ⟨by omega, hI⟩)
                    | (exfalso; omega)
                    | (subst hM1
                       exact ⟨by omega, hI⟩)
                    | ((try subst hM1)
                       refine ⟨by omega, ?_⟩
                       refine hI.live ?_ ?_ ?_
                       · repeat (first | exact Live.rf | refine Live.c ?_ (by omega) | refine Live.r ?_ (by omega) | refine Live.s ?_ (by omega))
                       · refine ⟨?_, ?_, ?_, ?_, ?_, ?_, ?_, ?_, ?_, ?_, ?_⟩
                         · exact hI.2.1.1.fr (fun i hi => by simp (disch := omega) only [jset_k, jset_j, jset_same, true_and, and_true])
                         · exact hI.2.1.2.1.fr (fun i a b => by simp (disch := omega) only [jset_k, jset_j, jset_same, true_and, and_true])
                         · exact hI.2.1.2.2.1.fr (fun i a b => by simp (disch := omega) only [jset_k, jset_j, jset_same, true_and, and_true])
                         · exact hI.2.1.2.2.2.1.fr (by omega) (fun i a b => by simp (disch := omega) only [jset_k, jset_j, jset_same, true_and, and_true])
                         · exact hI.2.1.2.2.2.2.1.fr (by omega) (fun i a b => by simp (disch := omega) only [jset_k, jset_j, jset_same, true_and, and_true]) (fun i a b => by simp (disch := omega) only [jset_k, jset_j, jset_same, true_and, and_true])
                         · exact hI.2.1.2.2.2.2.2.1.fr (by omega) (fun i a b => by simp (disch := omega) only [jset_k, jset_j, jset_same, true_and, and_true]) (fun i a b => by simp (disch := omega) only [jset_k, jset_j, jset_same, true_and, and_true]) (by simp (disch := omega) only [jset_k, jset_j, jset_same, true_and, and_true]; omega)
                         · exact hI.2.1.2.2.2.2.2.2.1.fr (by omega) (by simp (disch := omega) only [jset_k, jset_j, jset_same, true_and, and_true]) (fun i a b => by simp (disch := omega) only [jset_k, jset_j, jset_same, true_and, and_true])
                         · exact hI.2.1.2.2.2.2.2.2.2.1.fr (by omega) (fun i a b => by simp (disch := omega) only [jset_k, jset_j, jset_same, true_and, and_true]) (fun i a b => by simp (disch := omega) only [jset_k, jset_j, jset_same, true_and, and_true]) (by simp (disch := omega) only [jset_k, jset_j, jset_same, true_and, and_true]; omega)
                         · exact hI.2.1.2.2.2.2.2.2.2.2.1.fr (by omega) (fun i a b => by simp (disch := omega) only [jset_k, jset_j, jset_same, true_and, and_true])
                         · intro i h0 h1
                           have h := hI.2.1.2.2.2.2.2.2.2.2.2.1 i h0 h1
                           by_cases q : 5 * k ≤ i ∧ i < 5 * k + 5
                           · have q2 : i = 5 * k ∨ i = 5 * k + 1 ∨ i = 5 * k + 2 ∨ i = 5 * k + 3 ∨ i = 5 * k + 4 := by omega
                             rcases q2 with q2 | q2 | q2 | q2 | q2
                             · have e0 : 3588 + i = 3588 + 5 * k := by omega
                               rw [e0]
                               simp (disch := omega) only [jset_k, jset_j, jset_same, true_and, and_true]
                               omega
                             · have e1 : 3588 + i = 3588 + 5 * k + 1 := by omega
                               rw [e1]
                               simp (disch := omega) only [jset_k, jset_j, jset_same, true_and, and_true]
                               omega
                             · have e2 : 3588 + i = 3588 + 5 * k + 2 := by omega
                               rw [e2]
                               simp (disch := omega) only [jset_k, jset_j, jset_same, true_and, and_true]
                               omega
                             · have e3 : 3588 + i = 3588 + 5 * k + 3 := by omega
                               rw [e3]
                               simp (disch := omega) only [jset_k, jset_j, jset_same, true_and, and_true]
                               omega
                             · have e4 : 3588 + i = 3588 + 5 * k + 4 := by omega
                               rw [e4]
                               simp (disch := omega) only [jset_k, jset_j, jset_same, true_and, and_true]
                               omega
                           · simp (disch := omega) only [jset_k, jset_j, jset_same, true_and, and_true]
                             exact h
                         · exact hI.2.1.2.2.2.2.2.2.2.2.2.2.fr (fun i a b => by simp (disch := omega) only [jset_k, jset_j, jset_same, true_and, and_true])
                       · refine ⟨?_, ?_, ?_, ?_, ?_, ?_, ?_, ?_, ?_, ?_, ?_, ?_⟩
                         · exact hI.2.2.1.1.fr (fun j => by show _ = M (1 + 0) j; unfold cv; simp (disch := omega) only [jset_k, jset_j, jset_same, true_and, and_true]) (fun i hi => by simp (disch := omega) only [jset_k, jset_j, jset_same, true_and, and_true])
                         · exact hI.2.2.1.2.1.fr hI.2.1.2.1 (by omega) (fun k j a b => by show _ = M (1 + k) j; unfold cv; simp (disch := omega) only [jset_k, jset_j, jset_same, true_and, and_true]) (fun i a b => by simp (disch := omega) only [jset_k, jset_j, jset_same, true_and, and_true])
                         · exact hI.2.2.1.2.2.1.fr hI.2.1.2.2.1 (by omega) (fun k j a b => by show _ = M (1 + k) j; unfold cv; simp (disch := omega) only [jset_k, jset_j, jset_same, true_and, and_true]) (fun i a b => by simp (disch := omega) only [jset_k, jset_j, jset_same, true_and, and_true])
                         · exact hI.2.2.1.2.2.2.1.fr (by omega) (fun k j a b => by show _ = M (1 + k) j; unfold cv; simp (disch := omega) only [jset_k, jset_j, jset_same, true_and, and_true]) (fun i a b => by simp (disch := omega) only [jset_k, jset_j, jset_same, true_and, and_true])
                         · exact hI.2.2.1.2.2.2.2.1.fr (by omega) (fun k j a b => by show _ = M (1 + k) j; unfold cv; simp (disch := omega) only [jset_k, jset_j, jset_same, true_and, and_true]) (fun i a b => by simp (disch := omega) only [jset_k, jset_j, jset_same, true_and, and_true]) (fun i a b => by simp (disch := omega) only [jset_k, jset_j, jset_same, true_and, and_true])
                         · exact hI.2.2.1.2.2.2.2.2.1.fr (by omega) (fun k j a b => by show _ = M (1 + k) j; unfold cv; simp (disch := omega) only [jset_k, jset_j, jset_same, true_and, and_true]) (fun i a b => by simp (disch := omega) only [jset_k, jset_j, jset_same, true_and, and_true]) (fun i a b => by simp (disch := omega) only [jset_k, jset_j, jset_same, true_and, and_true])
                         · exact hI.2.2.1.2.2.2.2.2.2.1.fr (by omega) (fun k j a b => by show _ = M (1 + k) j; unfold cv; simp (disch := omega) only [jset_k, jset_j, jset_same, true_and, and_true]) (fun i a b => by simp (disch := omega) only [jset_k, jset_j, jset_same, true_and, and_true]) (fun i a b => by simp (disch := omega) only [jset_k, jset_j, jset_same, true_and, and_true])
                         · exact hI.2.2.1.2.2.2.2.2.2.2.1.fr (by omega) (fun k j a b => by show _ = M (1 + k) j; unfold cv; simp (disch := omega) only [jset_k, jset_j, jset_same, true_and, and_true]) (fun i a b => by simp (disch := omega) only [jset_k, jset_j, jset_same, true_and, and_true])
                         · exact hI.2.2.1.2.2.2.2.2.2.2.2.1.fr (fun k j a b => by show _ = M (1 + k) j; unfold cv; simp (disch := omega) only [jset_k, jset_j, jset_same, true_and, and_true]) (fun i a b => by simp (disch := omega) only [jset_k, jset_j, jset_same, true_and, and_true])
                         · intro k2 j h0 h1 h2 h3
                           simp only [cv1, Int.reduceAdd]
                           have h := (hC.hd h0 h1 h2 h3).1
                           by_cases q : k2 = k
                           · subst q
                             have q2 : j = 0 ∨ j = 1 ∨ j = 2 ∨ j = 3 ∨ j = 4 := by omega
                             rcases q2 with q2 | q2 | q2 | q2 | q2 <;> subst q2 <;> (try rw [Int.add_zero]) <;> simp (disch := omega) only [jset_k, jset_j, jset_same, true_and, and_true]
                           · simp (disch := omega) only [jset_k, jset_j, jset_same, true_and, and_true]
                             exact h
                         · exact hI.2.2.1.2.2.2.2.2.2.2.2.2.2.1.fr (by omega) (fun k j a b => by show _ = M (1 + k) j; unfold cv; simp (disch := omega) only [jset_k, jset_j, jset_same, true_and, and_true]) (fun i a b => by simp (disch := omega) only [jset_k, jset_j, jset_same, true_and, and_true])
                         · exact hI.2.2.1.2.2.2.2.2.2.2.2.2.2.2.fr hI.2.1.2.2.2.2.2.2.2.2.2.2 (fun k j a b => by show _ = M (1 + k) j; unfold cv; simp (disch := omega) only [jset_k, jset_j, jset_same, true_and, and_true]) (fun i a b => by simp (disch := omega) only [jset_k, jset_j, jset_same, true_and, and_true])))
            · dsimp only [jpush]
              first
               | (exfalso; omega)
               | (skip
                  refine e_if_ne 34 37 dX12_scribe_31 (by decide) (by decide) rfl (fun h => absurd h (by decide)) (fun _ => ?_)
                  refine e_bipush 36 dX12_scribe_34 (by decide) rfl ?_
                  refine e_iret dX12_scribe_36 ?_
                  first
                    | (exact ⟨by omega, hI⟩)
                    | (exfalso; omega)))
      · dsimp only [jpush]
        first
         | (exfalso; omega)
         | (skip
            refine e_if_ne 17 20 dX12_scribe_14 (by decide) (by decide) rfl (fun h => absurd h (by decide)) (fun _ => ?_)
            refine e_bipush 19 dX12_scribe_17 (by decide) rfl ?_
            refine e_iret dX12_scribe_19 ?_
            first
              | (exact ⟨by omega, hI⟩)
              | (exfalso; omega))
  · dsimp only [jpush]
    refine e_if_ne 9 12 dX11_scribe_6 (by decide) (by decide) rfl (fun h => absurd h (by decide)) (fun _ => ?_)
    refine e_bipush 11 dX11_scribe_9 (by decide) rfl ?_
    refine e_iret dX11_scribe_11 ?_
    refine jCt_of mt_yX12_scribe (Nat.le_of_ble_eq_true rfl) (fun X2 => ?_)
    refine e_aload_n (i := 0) 1 dX12_scribe_0 rfl rfl rfl ?_
    refine e_iconst 2 dX12_scribe_1 rfl ?_
    refine e_put0 (j := 0) 5 fl_12_1 dX12_scribe_2 at_928 rfl rfl rfl (by decide) hI.1 rfl ?_
    refine e_iload_n (i := 1) 6 dX12_scribe_5 rfl rfl rfl ?_
    refine e_i2l 7 dX12_scribe_6 (by omega) rfl ?_
    refine e_lconst0 8 dX12_scribe_7 rfl ?_
    refine e_ldc2 (z := (3)) 11 (ix := 159) wd_1442 (by decide) dX12_scribe_8 rfl ?_
    refine e_callS 14 mt_yX12_within ms_yX12_within wd_1390 (by decide) dX12_scribe_11 rfl rfl (Nat.le_of_ble_eq_true rfl) (jroom (by decide)) rfl (m_within (by omega) (by omega) (by omega) (fun w11 => ?_) (fun w11 => ?_))
    · dsimp only [jpush]
      first
       | (exfalso; omega)
       | (skip
          refine e_if_ne 17 20 dX12_scribe_14 (by decide) (by decide) rfl (fun _ => ?_) (fun h => absurd h (by decide))
          refine e_iload_n (i := 2) 21 dX12_scribe_20 rfl rfl rfl ?_
          refine e_iload_n (i := 3) 22 dX12_scribe_21 rfl rfl rfl ?_
          refine e_iload 24 dX12_scribe_22 rfl rfl ?_
          refine e_iload 26 dX12_scribe_24 rfl rfl ?_
          refine e_iload 28 dX12_scribe_26 rfl rfl ?_
          refine e_callS 31 mt_yX12_isHand ms_yX12_isHand wd_1733 (by decide) dX12_scribe_28 rfl rfl (Nat.le_of_ble_eq_true rfl) (jroom (by decide)) rfl (m_isHand (by omega) (by omega) (by omega) (by omega) (by omega) (fun w28 => ?_) (fun w28 => ?_))
          · dsimp only [jpush]
            first
             | (exfalso; omega)
             | (skip
                refine e_if_ne 34 37 dX12_scribe_31 (by decide) (by decide) rfl (fun _ => ?_) (fun h => absurd h (by decide))
                refine e_sipush 40 dX12_scribe_37 (by decide) rfl ?_
                refine e_iconst 41 dX12_scribe_40 rfl ?_
                refine e_iload_n (i := 1) 42 dX12_scribe_41 rfl rfl rfl ?_
                refine e_imul 43 dX12_scribe_42 rfl ?_
                refine e_iadd 44 dX12_scribe_43 rfl ?_
                refine e_istore (lsn := [(7, _), (0, _), (1, _), (2, _), (3, _), (4, _), (5, _), (6, _)]) 46 dX12_scribe_44 (by decide) rfl rfl ?_
                refine e_aload_n (i := 0) 47 dX12_scribe_46 rfl rfl rfl ?_
                refine e_getr (j := 1) 50 fl_12_13 dX12_scribe_47 at_928 rfl rfl tp_928_1 rfl ?_
                refine e_iload 52 dX12_scribe_50 rfl rfl ?_
                refine e_iload_n (i := 2) 53 dX12_scribe_52 rfl rfl rfl ?_
                refine e_iast 54 dX12_scribe_53 ar_929 (by omega) (by omega) (by omega) rfl ?_
                refine e_aload_n (i := 0) 55 dX12_scribe_54 rfl rfl rfl ?_
                refine e_getr (j := 1) 58 fl_12_13 dX12_scribe_55 at_928 rfl rfl tp_928_1 rfl ?_
                refine e_iload 60 dX12_scribe_58 rfl rfl ?_
                refine e_iconst 61 dX12_scribe_60 rfl ?_
                refine e_iadd 62 dX12_scribe_61 rfl ?_
                refine e_iload_n (i := 3) 63 dX12_scribe_62 rfl rfl rfl ?_
                refine e_iast 64 dX12_scribe_63 ar_929 (by omega) (by omega) (by omega) rfl ?_
                refine e_aload_n (i := 0) 65 dX12_scribe_64 rfl rfl rfl ?_
                refine e_getr (j := 1) 68 fl_12_13 dX12_scribe_65 at_928 rfl rfl tp_928_1 rfl ?_
                refine e_iload 70 dX12_scribe_68 rfl rfl ?_
                refine e_iconst 71 dX12_scribe_70 rfl ?_
                refine e_iadd 72 dX12_scribe_71 rfl ?_
                refine e_iload 74 dX12_scribe_72 rfl rfl ?_
                refine e_iast 75 dX12_scribe_74 ar_929 (by omega) (by omega) (by omega) rfl ?_
                refine e_aload_n (i := 0) 76 dX12_scribe_75 rfl rfl rfl ?_
                refine e_getr (j := 1) 79 fl_12_13 dX12_scribe_76 at_928 rfl rfl tp_928_1 rfl ?_
                refine e_iload 81 dX12_scribe_79 rfl rfl ?_
                refine e_iconst 82 dX12_scribe_81 rfl ?_
                refine e_iadd 83 dX12_scribe_82 rfl ?_
                refine e_iload 85 dX12_scribe_83 rfl rfl ?_
                refine e_iast 86 dX12_scribe_85 ar_929 (by omega) (by omega) (by omega) rfl ?_
                refine e_aload_n (i := 0) 87 dX12_scribe_86 rfl rfl rfl ?_
                refine e_getr (j := 1) 90 fl_12_13 dX12_scribe_87 at_928 rfl rfl tp_928_1 rfl ?_
                refine e_iload 92 dX12_scribe_90 rfl rfl ?_
                refine e_iconst 93 dX12_scribe_92 rfl ?_
                refine e_iadd 94 dX12_scribe_93 rfl ?_
                refine e_iload 96 dX12_scribe_94 rfl rfl ?_
                refine e_iast 97 dX12_scribe_96 ar_929 (by omega) (by omega) (by omega) rfl ?_
                refine e_iconst 98 dX12_scribe_97 rfl ?_
                refine e_iret dX12_scribe_98 ?_
                first
                  | (exact ⟨by omega, hI⟩)
                  | (exfalso; omega)
                  | (subst hM1
                     exact ⟨by omega, hI⟩)
                  | ((try subst hM1)
                     refine ⟨by omega, ?_⟩
                     refine hI.live ?_ ?_ ?_
                     · repeat (first | exact Live.rf | refine Live.c ?_ (by omega) | refine Live.r ?_ (by omega) | refine Live.s ?_ (by omega))
                     · refine ⟨?_, ?_, ?_, ?_, ?_, ?_, ?_, ?_, ?_, ?_, ?_⟩
                       · exact hI.2.1.1.fr (fun i hi => by simp (disch := omega) only [jset_k, jset_j, jset_same, true_and, and_true])
                       · exact hI.2.1.2.1.fr (fun i a b => by simp (disch := omega) only [jset_k, jset_j, jset_same, true_and, and_true])
                       · exact hI.2.1.2.2.1.fr (fun i a b => by simp (disch := omega) only [jset_k, jset_j, jset_same, true_and, and_true])
                       · exact hI.2.1.2.2.2.1.fr (by omega) (fun i a b => by simp (disch := omega) only [jset_k, jset_j, jset_same, true_and, and_true])
                       · exact hI.2.1.2.2.2.2.1.fr (by omega) (fun i a b => by simp (disch := omega) only [jset_k, jset_j, jset_same, true_and, and_true]) (fun i a b => by simp (disch := omega) only [jset_k, jset_j, jset_same, true_and, and_true])
                       · exact hI.2.1.2.2.2.2.2.1.fr (by omega) (fun i a b => by simp (disch := omega) only [jset_k, jset_j, jset_same, true_and, and_true]) (fun i a b => by simp (disch := omega) only [jset_k, jset_j, jset_same, true_and, and_true]) (by simp (disch := omega) only [jset_k, jset_j, jset_same, true_and, and_true]; omega)
                       · exact hI.2.1.2.2.2.2.2.2.1.fr (by omega) (by simp (disch := omega) only [jset_k, jset_j, jset_same, true_and, and_true]) (fun i a b => by simp (disch := omega) only [jset_k, jset_j, jset_same, true_and, and_true])
                       · exact hI.2.1.2.2.2.2.2.2.2.1.fr (by omega) (fun i a b => by simp (disch := omega) only [jset_k, jset_j, jset_same, true_and, and_true]) (fun i a b => by simp (disch := omega) only [jset_k, jset_j, jset_same, true_and, and_true]) (by simp (disch := omega) only [jset_k, jset_j, jset_same, true_and, and_true]; omega)
                       · exact hI.2.1.2.2.2.2.2.2.2.2.1.fr (by omega) (fun i a b => by simp (disch := omega) only [jset_k, jset_j, jset_same, true_and, and_true])
                       · intro i h0 h1
                         have h := hI.2.1.2.2.2.2.2.2.2.2.2.1 i h0 h1
                         by_cases q : 5 * k ≤ i ∧ i < 5 * k + 5
                         · have q2 : i = 5 * k ∨ i = 5 * k + 1 ∨ i = 5 * k + 2 ∨ i = 5 * k + 3 ∨ i = 5 * k + 4 := by omega
                           rcases q2 with q2 | q2 | q2 | q2 | q2
                           · have e0 : 3588 + i = 3588 + 5 * k := by omega
                             rw [e0]
                             simp (disch := omega) only [jset_k, jset_j, jset_same, true_and, and_true]
                             omega
                           · have e1 : 3588 + i = 3588 + 5 * k + 1 := by omega
                             rw [e1]
                             simp (disch := omega) only [jset_k, jset_j, jset_same, true_and, and_true]
                             omega
                           · have e2 : 3588 + i = 3588 + 5 * k + 2 := by omega
                             rw [e2]
                             simp (disch := omega) only [jset_k, jset_j, jset_same, true_and, and_true]
                             omega
                           · have e3 : 3588 + i = 3588 + 5 * k + 3 := by omega
                             rw [e3]
                             simp (disch := omega) only [jset_k, jset_j, jset_same, true_and, and_true]
                             omega
                           · have e4 : 3588 + i = 3588 + 5 * k + 4 := by omega
                             rw [e4]
                             simp (disch := omega) only [jset_k, jset_j, jset_same, true_and, and_true]
                             omega
                         · simp (disch := omega) only [jset_k, jset_j, jset_same, true_and, and_true]
                           exact h
                       · exact hI.2.1.2.2.2.2.2.2.2.2.2.2.fr (fun i a b => by simp (disch := omega) only [jset_k, jset_j, jset_same, true_and, and_true])
                     · refine ⟨?_, ?_, ?_, ?_, ?_, ?_, ?_, ?_, ?_, ?_, ?_, ?_⟩
                       · exact hI.2.2.1.1.fr (fun j => by show _ = M (1 + 0) j; unfold cv; simp (disch := omega) only [jset_k, jset_j, jset_same, true_and, and_true]) (fun i hi => by simp (disch := omega) only [jset_k, jset_j, jset_same, true_and, and_true])
                       · exact hI.2.2.1.2.1.fr hI.2.1.2.1 (by omega) (fun k j a b => by show _ = M (1 + k) j; unfold cv; simp (disch := omega) only [jset_k, jset_j, jset_same, true_and, and_true]) (fun i a b => by simp (disch := omega) only [jset_k, jset_j, jset_same, true_and, and_true])
                       · exact hI.2.2.1.2.2.1.fr hI.2.1.2.2.1 (by omega) (fun k j a b => by show _ = M (1 + k) j; unfold cv; simp (disch := omega) only [jset_k, jset_j, jset_same, true_and, and_true]) (fun i a b => by simp (disch := omega) only [jset_k, jset_j, jset_same, true_and, and_true])
                       · exact hI.2.2.1.2.2.2.1.fr (by omega) (fun k j a b => by show _ = M (1 + k) j; unfold cv; simp (disch := omega) only [jset_k, jset_j, jset_same, true_and, and_true]) (fun i a b => by simp (disch := omega) only [jset_k, jset_j, jset_same, true_and, and_true])
                       · exact hI.2.2.1.2.2.2.2.1.fr (by omega) (fun k j a b => by show _ = M (1 + k) j; unfold cv; simp (disch := omega) only [jset_k, jset_j, jset_same, true_and, and_true]) (fun i a b => by simp (disch := omega) only [jset_k, jset_j, jset_same, true_and, and_true]) (fun i a b => by simp (disch := omega) only [jset_k, jset_j, jset_same, true_and, and_true])
                       · exact hI.2.2.1.2.2.2.2.2.1.fr (by omega) (fun k j a b => by show _ = M (1 + k) j; unfold cv; simp (disch := omega) only [jset_k, jset_j, jset_same, true_and, and_true]) (fun i a b => by simp (disch := omega) only [jset_k, jset_j, jset_same, true_and, and_true]) (fun i a b => by simp (disch := omega) only [jset_k, jset_j, jset_same, true_and, and_true])
                       · exact hI.2.2.1.2.2.2.2.2.2.1.fr (by omega) (fun k j a b => by show _ = M (1 + k) j; unfold cv; simp (disch := omega) only [jset_k, jset_j, jset_same, true_and, and_true]) (fun i a b => by simp (disch := omega) only [jset_k, jset_j, jset_same, true_and, and_true]) (fun i a b => by simp (disch := omega) only [jset_k, jset_j, jset_same, true_and, and_true])
                       · exact hI.2.2.1.2.2.2.2.2.2.2.1.fr (by omega) (fun k j a b => by show _ = M (1 + k) j; unfold cv; simp (disch := omega) only [jset_k, jset_j, jset_same, true_and, and_true]) (fun i a b => by simp (disch := omega) only [jset_k, jset_j, jset_same, true_and, and_true])
                       · exact hI.2.2.1.2.2.2.2.2.2.2.2.1.fr (fun k j a b => by show _ = M (1 + k) j; unfold cv; simp (disch := omega) only [jset_k, jset_j, jset_same, true_and, and_true]) (fun i a b => by simp (disch := omega) only [jset_k, jset_j, jset_same, true_and, and_true])
                       · intro k2 j h0 h1 h2 h3
                         simp only [cv1, Int.reduceAdd]
                         have h := (hC.hd h0 h1 h2 h3).1
                         by_cases q : k2 = k
                         · subst q
                           have q2 : j = 0 ∨ j = 1 ∨ j = 2 ∨ j = 3 ∨ j = 4 := by omega
                           rcases q2 with q2 | q2 | q2 | q2 | q2 <;> subst q2 <;> (try rw [Int.add_zero]) <;> simp (disch := omega) only [jset_k, jset_j, jset_same, true_and, and_true]
                         · simp (disch := omega) only [jset_k, jset_j, jset_same, true_and, and_true]
                           exact h
                       · exact hI.2.2.1.2.2.2.2.2.2.2.2.2.2.1.fr (by omega) (fun k j a b => by show _ = M (1 + k) j; unfold cv; simp (disch := omega) only [jset_k, jset_j, jset_same, true_and, and_true]) (fun i a b => by simp (disch := omega) only [jset_k, jset_j, jset_same, true_and, and_true])
                       · exact hI.2.2.1.2.2.2.2.2.2.2.2.2.2.2.fr hI.2.1.2.2.2.2.2.2.2.2.2.2 (fun k j a b => by show _ = M (1 + k) j; unfold cv; simp (disch := omega) only [jset_k, jset_j, jset_same, true_and, and_true]) (fun i a b => by simp (disch := omega) only [jset_k, jset_j, jset_same, true_and, and_true])))
          · dsimp only [jpush]
            first
             | (exfalso; omega)
             | (skip
                refine e_if_ne 34 37 dX12_scribe_31 (by decide) (by decide) rfl (fun h => absurd h (by decide)) (fun _ => ?_)
                refine e_bipush 36 dX12_scribe_34 (by decide) rfl ?_
                refine e_iret dX12_scribe_36 ?_
                first
                  | (exact ⟨by omega, hI⟩)
                  | (exfalso; omega)))
    · dsimp only [jpush]
      first
       | (exfalso; omega)
       | (skip
          refine e_if_ne 17 20 dX12_scribe_14 (by decide) (by decide) rfl (fun h => absurd h (by decide)) (fun _ => ?_)
          refine e_bipush 19 dX12_scribe_17 (by decide) rfl ?_
          refine e_iret dX12_scribe_19 ?_
          first
            | (exact ⟨by omega, hI⟩)
            | (exfalso; omega))

