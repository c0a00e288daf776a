/-! PAIRS: pledge -/
theorem cLend_hi {M : jM} {k p l q : Int} (h : 294 ≤ q) (h1 : 0 ≤ M 1 10 ∧ M 1 10 < 60) (h2 : 0 ≤ M 1 12 ∧ M 1 12 < 150) (h3 : 0 ≤ p ∧ p < 16) : cLend M k p l q = M q := by
  unfold cLend
  simp (disch := first | omega | (simp (disch := omega) only [jset_k, jset_j, jset_same, cBegin_o]; omega)) only [cGive_hi, cBegin_hi, jset_row]
theorem p_pledge {M : jM} (hI : Inv M) {kind : Int} (hkind : -2147483648 ≤ kind ∧ kind ≤ 2147483647) {person : Int} (hperson : -2147483648 ≤ person ∧ person ≤ 2147483647) {loan : Int} (hloan : -2147483648 ≤ loan ∧ loan ≤ 2147483647) : jCt yX11_pledge cX11_pledge 4 (some .int) 4 [jR 0, jI kind, jI person, jI loan] M (fun z M1 => jCt yX12_pledge cX12_pledge 4 (some .int) 4 [jR 928, jI kind, jI person, jI loan] M1 (fun z2 M2 => z = z2 ∧ Inv M2)) := by
  have hC := hI.cr
  have hn := hC.cnt
  have hg := hC.rng
  have hu := hC.rule
  have hlt := hC.lrel.top
  refine jCt_of mt_yX11_pledge (Nat.le_of_ble_eq_true rfl) (fun X => ?_)
  refine e_aload_n (i := 0) 1 dX11_pledge_0 rfl rfl rfl ?_
  refine e_getr (j := 0) 4 fl_11_10 dX11_pledge_1 at_0 rfl rfl tp_0_0 rfl ?_
  refine e_iload_n (i := 1) 5 dX11_pledge_4 rfl rfl rfl ?_
  refine e_iload_n (i := 2) 6 dX11_pledge_5 rfl rfl rfl ?_
  refine e_iload_n (i := 3) 7 dX11_pledge_6 rfl rfl rfl ?_
  refine e_callV 10 mt_yX8_lendOn mv_yX8_lendOn wd_774 (by decide) dX11_pledge_7 at_1 jc_8 rfl rfl rfl (Nat.le_of_ble_eq_true rfl) (jroom (by decide)) rfl (c_lendOn (by (try simp (disch := omega) only [jset_k, jset_j, jset_same, true_and, and_true, cLend_hi]); omega) (by (try simp (disch := omega) only [jset_k, jset_j, jset_same, true_and, and_true, cLend_hi]); omega) (by (try simp (disch := omega) only [jset_k, jset_j, jset_same, true_and, and_true, cLend_hi]); omega) (by (try simp (disch := omega) only [jset_k, jset_j, jset_same, true_and, and_true, cLend_hi]); omega) hC.lrel.ok (by (try simp (disch := omega) only [jset_k, jset_j, jset_same, true_and, and_true, cLend_hi]); omega) (fun w7 => ?_) (fun w7 => ?_) (fun w7 => ?_) (fun w7 => ?_) (fun w7 => ?_))
  · dsimp only [jpush]
    (try simp (disch := omega) only [jset_k, jset_j, jset_same, true_and, and_true, cLend_hi] at w7)
    (try simp (disch := omega) only [jset_k, jset_j, jset_same, true_and, and_true, cLend_hi])
    refine e_iret dX11_pledge_10 ?_
    refine mem_gen (P := fun M1 => jCt yX12_pledge cX12_pledge 4 (some .int) 4 [jR 928, jI kind, jI person, jI loan] M1 (fun z2 M2 => _ = z2 ∧ Inv M2)) (fun M1 hM1 => ?_)
    have hA : M1 929 = M 929 := by rw [hM1]; try (simp (disch := omega) only [cLend_hi])
    have hT : M1 928 0 = 0 := by rw [hM1]; first | exact hI.1 | (simp (disch := omega) only [cLend_hi]; exact hI.1)
    refine jCt_of mt_yX12_pledge (Nat.le_of_ble_eq_true rfl) (fun X2 => ?_)
    refine e_aload_n (i := 0) 1 dX12_pledge_0 rfl rfl rfl ?_
    refine e_iconst 2 dX12_pledge_1 rfl ?_
    refine e_put0 (j := 0) 5 fl_12_1 dX12_pledge_2 at_928 rfl rfl rfl (by decide) (by first | exact hT | (simp (disch := omega) only [jset_k, jset_j, jset_same, true_and, and_true, hA, cLend_hi]; exact hT)) rfl ?_
    refine e_aload_n (i := 0) 6 dX12_pledge_5 rfl rfl rfl ?_
    refine e_iload_n (i := 1) 7 dX12_pledge_6 rfl rfl rfl ?_
    refine e_i2l 8 dX12_pledge_7 (by omega) rfl ?_
    refine e_iload_n (i := 2) 9 dX12_pledge_8 rfl rfl rfl ?_
    refine e_i2l 10 dX12_pledge_9 (by omega) rfl ?_
    refine e_iload_n (i := 3) 11 dX12_pledge_10 rfl rfl rfl ?_
    refine e_i2l 12 dX12_pledge_11 (by omega) rfl ?_
    refine e_callV 15 mt_yX12_pledges mv_yX12_pledges wd_1520 (by decide) dX12_pledge_12 at_928 jc_12 rfl rfl rfl (Nat.le_of_ble_eq_true rfl) (jroom (by decide)) rfl (m_pledges (by (try simp (disch := omega) only [jset_k, jset_j, jset_same, true_and, and_true, hA, cLend_hi]); omega) (by (try simp (disch := omega) only [jset_k, jset_j, jset_same, true_and, and_true, hA, cLend_hi]); omega) (by (try simp (disch := omega) only [jset_k, jset_j, jset_same, true_and, and_true, hA, cLend_hi]); omega) (by (try simp (disch := omega) only [jset_k, jset_j, jset_same, true_and, and_true, hA, cLend_hi]); omega) (by rw [hA]; exact hC.rlaw) (fun w12 => ?_) (fun w12 => ?_) (fun w12 => ?_) (fun w12 => ?_) (fun w12 => ?_))
    · dsimp only [jpush]
      (try simp (disch := omega) only [jset_k, jset_j, jset_same, true_and, and_true, hA, cLend_hi] at w12)
      (try simp (disch := omega) only [jset_k, jset_j, jset_same, true_and, and_true, hA, cLend_hi])
      first
       | (exfalso; omega)
       | (skip
          refine e_iret dX12_pledge_15 ?_
          first
            | (exact ⟨by omega, hI⟩)
            | (exfalso; omega)
            | (subst hM1
               exact ⟨by omega, hI⟩)
            | ((try subst hM1)
               refine ⟨by first | omega | exact congrArg tkNum (by omega), ?_⟩
               exact step_lend hI (by omega) (by omega) (by omega) (by omega) (by omega)))
    · dsimp only [jpush]
      (try simp (disch := omega) only [jset_k, jset_j, jset_same, true_and, and_true, hA, cLend_hi] at w12)
      (try simp (disch := omega) only [jset_k, jset_j, jset_same, true_and, and_true, hA, cLend_hi])
      first
       | (exfalso; omega)
       | (skip
          refine e_iret dX12_pledge_15 ?_
          first
            | (exact ⟨by omega, hI⟩)
            | (exfalso; omega)
            | (subst hM1
               exact ⟨by omega, hI⟩)
            | ((try subst hM1)
               refine ⟨by first | omega | exact congrArg tkNum (by omega), ?_⟩
               exact step_lend hI (by omega) (by omega) (by omega) (by omega) (by omega)))
    · dsimp only [jpush]
      (try simp (disch := omega) only [jset_k, jset_j, jset_same, true_and, and_true, hA, cLend_hi] at w12)
      (try simp (disch := omega) only [jset_k, jset_j, jset_same, true_and, and_true, hA, cLend_hi])
      first
       | (exfalso; omega)
       | (skip
          refine e_iret dX12_pledge_15 ?_
          first
            | (exact ⟨by omega, hI⟩)
            | (exfalso; omega)
            | (subst hM1
               exact ⟨by omega, hI⟩)
            | ((try subst hM1)
               refine ⟨by first | omega | exact congrArg tkNum (by omega), ?_⟩
               exact step_lend hI (by omega) (by omega) (by omega) (by omega) (by omega)))
    · dsimp only [jpush]
      (try simp (disch := omega) only [jset_k, jset_j, jset_same, true_and, and_true, hA, cLend_hi] at w12)
      (try simp (disch := omega) only [jset_k, jset_j, jset_same, true_and, and_true, hA, cLend_hi])
      first
       | (exfalso; omega)
       | (skip
          refine e_iret dX12_pledge_15 ?_
          first
            | (exact ⟨by omega, hI⟩)
            | (exfalso; omega)
            | (subst hM1
               exact ⟨by omega, hI⟩)
            | ((try subst hM1)
               refine ⟨by first | omega | exact congrArg tkNum (by omega), ?_⟩
               exact step_lend hI (by omega) (by omega) (by omega) (by omega) (by omega)))
    · dsimp only [jpush]
      (try simp (disch := omega) only [jset_k, jset_j, jset_same, true_and, and_true, hA, cLend_hi] at w12)
      (try simp (disch := omega) only [jset_k, jset_j, jset_same, true_and, and_true, hA, cLend_hi])
      first
       | (exfalso; omega)
       | (skip
          refine e_iret dX12_pledge_15 ?_
          first
            | (exact ⟨by omega, hI⟩)
            | (exfalso; omega)
            | (subst hM1
               exact ⟨by omega, hI⟩)
            | ((try subst hM1)
               refine ⟨by first | omega | exact congrArg tkNum (by omega), ?_⟩
               exact step_lend hI (by omega) (by omega) (by omega) (by omega) (by omega)))
  · dsimp only [jpush]
    (try simp (disch := omega) only [jset_k, jset_j, jset_same, true_and, and_true, cLend_hi] at w7)
    (try simp (disch := omega) only [jset_k, jset_j, jset_same, true_and, and_true, cLend_hi])
    refine e_iret dX11_pledge_10 ?_
    refine mem_gen (P := fun M1 => jCt yX12_pledge cX12_pledge 4 (some .int) 4 [jR 928, jI kind, jI person, jI loan] M1 (fun z2 M2 => _ = z2 ∧ Inv M2)) (fun M1 hM1 => ?_)
    have hA : M1 929 = M 929 := by rw [hM1]; try (simp (disch := omega) only [cLend_hi])
    have hT : M1 928 0 = 0 := by rw [hM1]; first | exact hI.1 | (simp (disch := omega) only [cLend_hi]; exact hI.1)
    refine jCt_of mt_yX12_pledge (Nat.le_of_ble_eq_true rfl) (fun X2 => ?_)
    refine e_aload_n (i := 0) 1 dX12_pledge_0 rfl rfl rfl ?_
    refine e_iconst 2 dX12_pledge_1 rfl ?_
    refine e_put0 (j := 0) 5 fl_12_1 dX12_pledge_2 at_928 rfl rfl rfl (by decide) (by first | exact hT | (simp (disch := omega) only [jset_k, jset_j, jset_same, true_and, and_true, hA, cLend_hi]; exact hT)) rfl ?_
    refine e_aload_n (i := 0) 6 dX12_pledge_5 rfl rfl rfl ?_
    refine e_iload_n (i := 1) 7 dX12_pledge_6 rfl rfl rfl ?_
    refine e_i2l 8 dX12_pledge_7 (by omega) rfl ?_
    refine e_iload_n (i := 2) 9 dX12_pledge_8 rfl rfl rfl ?_
    refine e_i2l 10 dX12_pledge_9 (by omega) rfl ?_
    refine e_iload_n (i := 3) 11 dX12_pledge_10 rfl rfl rfl ?_
    refine e_i2l 12 dX12_pledge_11 (by omega) rfl ?_
    refine e_callV 15 mt_yX12_pledges mv_yX12_pledges wd_1520 (by decide) dX12_pledge_12 at_928 jc_12 rfl rfl rfl (Nat.le_of_ble_eq_true rfl) (jroom (by decide)) rfl (m_pledges (by (try simp (disch := omega) only [jset_k, jset_j, jset_same, true_and, and_true, hA, cLend_hi]); omega) (by (try simp (disch := omega) only [jset_k, jset_j, jset_same, true_and, and_true, hA, cLend_hi]); omega) (by (try simp (disch := omega) only [jset_k, jset_j, jset_same, true_and, and_true, hA, cLend_hi]); omega) (by (try simp (disch := omega) only [jset_k, jset_j, jset_same, true_and, and_true, hA, cLend_hi]); omega) (by rw [hA]; exact hC.rlaw) (fun w12 => ?_) (fun w12 => ?_) (fun w12 => ?_) (fun w12 => ?_) (fun w12 => ?_))
    · dsimp only [jpush]
      (try simp (disch := omega) only [jset_k, jset_j, jset_same, true_and, and_true, hA, cLend_hi] at w12)
      (try simp (disch := omega) only [jset_k, jset_j, jset_same, true_and, and_true, hA, cLend_hi])
      first
       | (exfalso; omega)
       | (skip
          refine e_iret dX12_pledge_15 ?_
          first
            | (exact ⟨by omega, hI⟩)
            | (exfalso; omega)
            | (subst hM1
               exact ⟨by omega, hI⟩)
            | ((try subst hM1)
               refine ⟨by first | omega | exact congrArg tkNum (by omega), ?_⟩
               exact step_lend hI (by omega) (by omega) (by omega) (by omega) (by omega)))
    · dsimp only [jpush]
      (try simp (disch := omega) only [jset_k, jset_j, jset_same, true_and, and_true, hA, cLend_hi] at w12)
      (try simp (disch := omega) only [jset_k, jset_j, jset_same, true_and, and_true, hA, cLend_hi])
      first
       | (exfalso; omega)
       | (skip
          refine e_iret dX12_pledge_15 ?_
          first
            | (exact ⟨by omega, hI⟩)
            | (exfalso; omega)
            | (subst hM1
               exact ⟨by omega, hI⟩)
            | ((try subst hM1)
               refine ⟨by first | omega | exact congrArg tkNum (by omega), ?_⟩
               exact step_lend hI (by omega) (by omega) (by omega) (by omega) (by omega)))
    · dsimp only [jpush]
      (try simp (disch := omega) only [jset_k, jset_j, jset_same, true_and, and_true, hA, cLend_hi] at w12)
      (try simp (disch := omega) only [jset_k, jset_j, jset_same, true_and, and_true, hA, cLend_hi])
      first
       | (exfalso; omega)
       | (skip
          refine e_iret dX12_pledge_15 ?_
          first
            | (exact ⟨by omega, hI⟩)
            | (exfalso; omega)
            | (subst hM1
               exact ⟨by omega, hI⟩)
            | ((try subst hM1)
               refine ⟨by first | omega | exact congrArg tkNum (by omega), ?_⟩
               exact step_lend hI (by omega) (by omega) (by omega) (by omega) (by omega)))
    · dsimp only [jpush]
      (try simp (disch := omega) only [jset_k, jset_j, jset_same, true_and, and_true, hA, cLend_hi] at w12)
      (try simp (disch := omega) only [jset_k, jset_j, jset_same, true_and, and_true, hA, cLend_hi])
      first
       | (exfalso; omega)
       | (skip
          refine e_iret dX12_pledge_15 ?_
          first
            | (exact ⟨by omega, hI⟩)
            | (exfalso; omega)
            | (subst hM1
               exact ⟨by omega, hI⟩)
            | ((try subst hM1)
               refine ⟨by first | omega | exact congrArg tkNum (by omega), ?_⟩
               exact step_lend hI (by omega) (by omega) (by omega) (by omega) (by omega)))
    · dsimp only [jpush]
      (try simp (disch := omega) only [jset_k, jset_j, jset_same, true_and, and_true, hA, cLend_hi] at w12)
      (try simp (disch := omega) only [jset_k, jset_j, jset_same, true_and, and_true, hA, cLend_hi])
      first
       | (exfalso; omega)
       | (skip
          refine e_iret dX12_pledge_15 ?_
          first
            | (exact ⟨by omega, hI⟩)
            | (exfalso; omega)
            | (subst hM1
               exact ⟨by omega, hI⟩)
            | ((try subst hM1)
               refine ⟨by first | omega | exact congrArg tkNum (by omega), ?_⟩
               exact step_lend hI (by omega) (by omega) (by omega) (by omega) (by omega)))
  · dsimp only [jpush]
    (try simp (disch := omega) only [jset_k, jset_j, jset_same, true_and, and_true, cLend_hi] at w7)
    (try simp (disch := omega) only [jset_k, jset_j, jset_same, true_and, and_true, cLend_hi])
    refine e_iret dX11_pledge_10 ?_
    refine mem_gen (P := fun M1 => jCt yX12_pledge cX12_pledge 4 (some .int) 4 [jR 928, jI kind, jI person, jI loan] M1 (fun z2 M2 => _ = z2 ∧ Inv M2)) (fun M1 hM1 => ?_)
    have hA : M1 929 = M 929 := by rw [hM1]; try (simp (disch := omega) only [cLend_hi])
    have hT : M1 928 0 = 0 := by rw [hM1]; first | exact hI.1 | (simp (disch := omega) only [cLend_hi]; exact hI.1)
    refine jCt_of mt_yX12_pledge (Nat.le_of_ble_eq_true rfl) (fun X2 => ?_)
    refine e_aload_n (i := 0) 1 dX12_pledge_0 rfl rfl rfl ?_
    refine e_iconst 2 dX12_pledge_1 rfl ?_
    refine e_put0 (j := 0) 5 fl_12_1 dX12_pledge_2 at_928 rfl rfl rfl (by decide) (by first | exact hT | (simp (disch := omega) only [jset_k, jset_j, jset_same, true_and, and_true, hA, cLend_hi]; exact hT)) rfl ?_
    refine e_aload_n (i := 0) 6 dX12_pledge_5 rfl rfl rfl ?_
    refine e_iload_n (i := 1) 7 dX12_pledge_6 rfl rfl rfl ?_
    refine e_i2l 8 dX12_pledge_7 (by omega) rfl ?_
    refine e_iload_n (i := 2) 9 dX12_pledge_8 rfl rfl rfl ?_
    refine e_i2l 10 dX12_pledge_9 (by omega) rfl ?_
    refine e_iload_n (i := 3) 11 dX12_pledge_10 rfl rfl rfl ?_
    refine e_i2l 12 dX12_pledge_11 (by omega) rfl ?_
    refine e_callV 15 mt_yX12_pledges mv_yX12_pledges wd_1520 (by decide) dX12_pledge_12 at_928 jc_12 rfl rfl rfl (Nat.le_of_ble_eq_true rfl) (jroom (by decide)) rfl (m_pledges (by (try simp (disch := omega) only [jset_k, jset_j, jset_same, true_and, and_true, hA, cLend_hi]); omega) (by (try simp (disch := omega) only [jset_k, jset_j, jset_same, true_and, and_true, hA, cLend_hi]); omega) (by (try simp (disch := omega) only [jset_k, jset_j, jset_same, true_and, and_true, hA, cLend_hi]); omega) (by (try simp (disch := omega) only [jset_k, jset_j, jset_same, true_and, and_true, hA, cLend_hi]); omega) (by rw [hA]; exact hC.rlaw) (fun w12 => ?_) (fun w12 => ?_) (fun w12 => ?_) (fun w12 => ?_) (fun w12 => ?_))
    · dsimp only [jpush]
      (try simp (disch := omega) only [jset_k, jset_j, jset_same, true_and, and_true, hA, cLend_hi] at w12)
      (try simp (disch := omega) only [jset_k, jset_j, jset_same, true_and, and_true, hA, cLend_hi])
      first
       | (exfalso; omega)
       | (skip
          refine e_iret dX12_pledge_15 ?_
          first
            | (exact ⟨by omega, hI⟩)
            | (exfalso; omega)
            | (subst hM1
               exact ⟨by omega, hI⟩)
            | ((try subst hM1)
               refine ⟨by first | omega | exact congrArg tkNum (by omega), ?_⟩
               exact step_lend hI (by omega) (by omega) (by omega) (by omega) (by omega)))
    · dsimp only [jpush]
      (try simp (disch := omega) only [jset_k, jset_j, jset_same, true_and, and_true, hA, cLend_hi] at w12)
      (try simp (disch := omega) only [jset_k, jset_j, jset_same, true_and, and_true, hA, cLend_hi])
      first
       | (exfalso; omega)
       | (skip
          refine e_iret dX12_pledge_15 ?_
          first
            | (exact ⟨by omega, hI⟩)
            | (exfalso; omega)
            | (subst hM1
               exact ⟨by omega, hI⟩)
            | ((try subst hM1)
               refine ⟨by first | omega | exact congrArg tkNum (by omega), ?_⟩
               exact step_lend hI (by omega) (by omega) (by omega) (by omega) (by omega)))
    · dsimp only [jpush]
      (try simp (disch := omega) only [jset_k, jset_j, jset_same, true_and, and_true, hA, cLend_hi] at w12)
      (try simp (disch := omega) only [jset_k, jset_j, jset_same, true_and, and_true, hA, cLend_hi])
      first
       | (exfalso; omega)
       | (skip
          refine e_iret dX12_pledge_15 ?_
          first
            | (exact ⟨by omega, hI⟩)
            | (exfalso; omega)
            | (subst hM1
               exact ⟨by omega, hI⟩)
            | ((try subst hM1)
               refine ⟨by first | omega | exact congrArg tkNum (by omega), ?_⟩
               exact step_lend hI (by omega) (by omega) (by omega) (by omega) (by omega)))
    · dsimp only [jpush]
      (try simp (disch := omega) only [jset_k, jset_j, jset_same, true_and, and_true, hA, cLend_hi] at w12)
      (try simp (disch := omega) only [jset_k, jset_j, jset_same, true_and, and_true, hA, cLend_hi])
      first
       | (exfalso; omega)
       | (skip
          refine e_iret dX12_pledge_15 ?_
          first
            | (exact ⟨by omega, hI⟩)
            | (exfalso; omega)
            | (subst hM1
               exact ⟨by omega, hI⟩)
            | ((try subst hM1)
               refine ⟨by first | omega | exact congrArg tkNum (by omega), ?_⟩
               exact step_lend hI (by omega) (by omega) (by omega) (by omega) (by omega)))
    · dsimp only [jpush]
      (try simp (disch := omega) only [jset_k, jset_j, jset_same, true_and, and_true, hA, cLend_hi] at w12)
      (try simp (disch := omega) only [jset_k, jset_j, jset_same, true_and, and_true, hA, cLend_hi])
      first
       | (exfalso; omega)
       | (skip
          refine e_iret dX12_pledge_15 ?_
          first
            | (exact ⟨by omega, hI⟩)
            | (exfalso; omega)
            | (subst hM1
               exact ⟨by omega, hI⟩)
            | ((try subst hM1)
               refine ⟨by first | omega | exact congrArg tkNum (by omega), ?_⟩
               exact step_lend hI (by omega) (by omega) (by omega) (by omega) (by omega)))
  · dsimp only [jpush]
    (try simp (disch := omega) only [jset_k, jset_j, jset_same, true_and, and_true, cLend_hi] at w7)
    (try simp (disch := omega) only [jset_k, jset_j, jset_same, true_and, and_true, cLend_hi])
    refine e_iret dX11_pledge_10 ?_
    refine mem_gen (P := fun M1 => jCt yX12_pledge cX12_pledge 4 (some .int) 4 [jR 928, jI kind, jI person, jI loan] M1 (fun z2 M2 => _ = z2 ∧ Inv M2)) (fun M1 hM1 => ?_)
    have hA : M1 929 = M 929 := by rw [hM1]; try (simp (disch := omega) only [cLend_hi])
    have hT : M1 928 0 = 0 := by rw [hM1]; first | exact hI.1 | (simp (disch := omega) only [cLend_hi]; exact hI.1)
    refine jCt_of mt_yX12_pledge (Nat.le_of_ble_eq_true rfl) (fun X2 => ?_)
    refine e_aload_n (i := 0) 1 dX12_pledge_0 rfl rfl rfl ?_
    refine e_iconst 2 dX12_pledge_1 rfl ?_
    refine e_put0 (j := 0) 5 fl_12_1 dX12_pledge_2 at_928 rfl rfl rfl (by decide) (by first | exact hT | (simp (disch := omega) only [jset_k, jset_j, jset_same, true_and, and_true, hA, cLend_hi]; exact hT)) rfl ?_
    refine e_aload_n (i := 0) 6 dX12_pledge_5 rfl rfl rfl ?_
    refine e_iload_n (i := 1) 7 dX12_pledge_6 rfl rfl rfl ?_
    refine e_i2l 8 dX12_pledge_7 (by omega) rfl ?_
    refine e_iload_n (i := 2) 9 dX12_pledge_8 rfl rfl rfl ?_
    refine e_i2l 10 dX12_pledge_9 (by omega) rfl ?_
    refine e_iload_n (i := 3) 11 dX12_pledge_10 rfl rfl rfl ?_
    refine e_i2l 12 dX12_pledge_11 (by omega) rfl ?_
    refine e_callV 15 mt_yX12_pledges mv_yX12_pledges wd_1520 (by decide) dX12_pledge_12 at_928 jc_12 rfl rfl rfl (Nat.le_of_ble_eq_true rfl) (jroom (by decide)) rfl (m_pledges (by (try simp (disch := omega) only [jset_k, jset_j, jset_same, true_and, and_true, hA, cLend_hi]); omega) (by (try simp (disch := omega) only [jset_k, jset_j, jset_same, true_and, and_true, hA, cLend_hi]); omega) (by (try simp (disch := omega) only [jset_k, jset_j, jset_same, true_and, and_true, hA, cLend_hi]); omega) (by (try simp (disch := omega) only [jset_k, jset_j, jset_same, true_and, and_true, hA, cLend_hi]); omega) (by rw [hA]; exact hC.rlaw) (fun w12 => ?_) (fun w12 => ?_) (fun w12 => ?_) (fun w12 => ?_) (fun w12 => ?_))
    · dsimp only [jpush]
      (try simp (disch := omega) only [jset_k, jset_j, jset_same, true_and, and_true, hA, cLend_hi] at w12)
      (try simp (disch := omega) only [jset_k, jset_j, jset_same, true_and, and_true, hA, cLend_hi])
      first
       | (exfalso; omega)
       | (skip
          refine e_iret dX12_pledge_15 ?_
          first
            | (exact ⟨by omega, hI⟩)
            | (exfalso; omega)
            | (subst hM1
               exact ⟨by omega, hI⟩)
            | ((try subst hM1)
               refine ⟨by first | omega | exact congrArg tkNum (by omega), ?_⟩
               exact step_lend hI (by omega) (by omega) (by omega) (by omega) (by omega)))
    · dsimp only [jpush]
      (try simp (disch := omega) only [jset_k, jset_j, jset_same, true_and, and_true, hA, cLend_hi] at w12)
      (try simp (disch := omega) only [jset_k, jset_j, jset_same, true_and, and_true, hA, cLend_hi])
      first
       | (exfalso; omega)
       | (skip
          refine e_iret dX12_pledge_15 ?_
          first
            | (exact ⟨by omega, hI⟩)
            | (exfalso; omega)
            | (subst hM1
               exact ⟨by omega, hI⟩)
            | ((try subst hM1)
               refine ⟨by first | omega | exact congrArg tkNum (by omega), ?_⟩
               exact step_lend hI (by omega) (by omega) (by omega) (by omega) (by omega)))
    · dsimp only [jpush]
      (try simp (disch := omega) only [jset_k, jset_j, jset_same, true_and, and_true, hA, cLend_hi] at w12)
      (try simp (disch := omega) only [jset_k, jset_j, jset_same, true_and, and_true, hA, cLend_hi])
      first
       | (exfalso; omega)
       | (skip
          refine e_iret dX12_pledge_15 ?_
          first
            | (exact ⟨by omega, hI⟩)
            | (exfalso; omega)
            | (subst hM1
               exact ⟨by omega, hI⟩)
            | ((try subst hM1)
               refine ⟨by first | omega | exact congrArg tkNum (by omega), ?_⟩
               exact step_lend hI (by omega) (by omega) (by omega) (by omega) (by omega)))
    · dsimp only [jpush]
      (try simp (disch := omega) only [jset_k, jset_j, jset_same, true_and, and_true, hA, cLend_hi] at w12)
      (try simp (disch := omega) only [jset_k, jset_j, jset_same, true_and, and_true, hA, cLend_hi])
      first
       | (exfalso; omega)
       | (skip
          refine e_iret dX12_pledge_15 ?_
          first
            | (exact ⟨by omega, hI⟩)
            | (exfalso; omega)
            | (subst hM1
               exact ⟨by omega, hI⟩)
            | ((try subst hM1)
               refine ⟨by first | omega | exact congrArg tkNum (by omega), ?_⟩
               exact step_lend hI (by omega) (by omega) (by omega) (by omega) (by omega)))
    · dsimp only [jpush]
      (try simp (disch := omega) only [jset_k, jset_j, jset_same, true_and, and_true, hA, cLend_hi] at w12)
      (try simp (disch := omega) only [jset_k, jset_j, jset_same, true_and, and_true, hA, cLend_hi])
      first
       | (exfalso; omega)
       | (skip
          refine e_iret dX12_pledge_15 ?_
          first
            | (exact ⟨by omega, hI⟩)
            | (exfalso; omega)
            | (subst hM1
               exact ⟨by omega, hI⟩)
            | ((try subst hM1)
               refine ⟨by first | omega | exact congrArg tkNum (by omega), ?_⟩
               exact step_lend hI (by omega) (by omega) (by omega) (by omega) (by omega)))
  · dsimp only [jpush]
    (try simp (disch := omega) only [jset_k, jset_j, jset_same, true_and, and_true, cLend_hi] at w7)
    (try simp (disch := omega) only [jset_k, jset_j, jset_same, true_and, and_true, cLend_hi])
    refine e_iret dX11_pledge_10 ?_
    refine mem_gen (P := fun M1 => jCt yX12_pledge cX12_pledge 4 (some .int) 4 [jR 928, jI kind, jI person, jI loan] M1 (fun z2 M2 => _ = z2 ∧ Inv M2)) (fun M1 hM1 => ?_)
    have hA : M1 929 = M 929 := by rw [hM1]; try (simp (disch := omega) only [cLend_hi])
    have hT : M1 928 0 = 0 := by rw [hM1]; first | exact hI.1 | (simp (disch := omega) only [cLend_hi]; exact hI.1)
    refine jCt_of mt_yX12_pledge (Nat.le_of_ble_eq_true rfl) (fun X2 => ?_)
    refine e_aload_n (i := 0) 1 dX12_pledge_0 rfl rfl rfl ?_
    refine e_iconst 2 dX12_pledge_1 rfl ?_
    refine e_put0 (j := 0) 5 fl_12_1 dX12_pledge_2 at_928 rfl rfl rfl (by decide) (by first | exact hT | (simp (disch := omega) only [jset_k, jset_j, jset_same, true_and, and_true, hA, cLend_hi]; exact hT)) rfl ?_
    refine e_aload_n (i := 0) 6 dX12_pledge_5 rfl rfl rfl ?_
    refine e_iload_n (i := 1) 7 dX12_pledge_6 rfl rfl rfl ?_
    refine e_i2l 8 dX12_pledge_7 (by omega) rfl ?_
    refine e_iload_n (i := 2) 9 dX12_pledge_8 rfl rfl rfl ?_
    refine e_i2l 10 dX12_pledge_9 (by omega) rfl ?_
    refine e_iload_n (i := 3) 11 dX12_pledge_10 rfl rfl rfl ?_
    refine e_i2l 12 dX12_pledge_11 (by omega) rfl ?_
    refine e_callV 15 mt_yX12_pledges mv_yX12_pledges wd_1520 (by decide) dX12_pledge_12 at_928 jc_12 rfl rfl rfl (Nat.le_of_ble_eq_true rfl) (jroom (by decide)) rfl (m_pledges (by (try simp (disch := omega) only [jset_k, jset_j, jset_same, true_and, and_true, hA, cLend_hi]); omega) (by (try simp (disch := omega) only [jset_k, jset_j, jset_same, true_and, and_true, hA, cLend_hi]); omega) (by (try simp (disch := omega) only [jset_k, jset_j, jset_same, true_and, and_true, hA, cLend_hi]); omega) (by (try simp (disch := omega) only [jset_k, jset_j, jset_same, true_and, and_true, hA, cLend_hi]); omega) (by rw [hA]; exact hC.rlaw) (fun w12 => ?_) (fun w12 => ?_) (fun w12 => ?_) (fun w12 => ?_) (fun w12 => ?_))
    · dsimp only [jpush]
      (try simp (disch := omega) only [jset_k, jset_j, jset_same, true_and, and_true, hA, cLend_hi] at w12)
      (try simp (disch := omega) only [jset_k, jset_j, jset_same, true_and, and_true, hA, cLend_hi])
      first
       | (exfalso; omega)
       | (skip
          refine e_iret dX12_pledge_15 ?_
          first
            | (exact ⟨by omega, hI⟩)
            | (exfalso; omega)
            | (subst hM1
               exact ⟨by omega, hI⟩)
            | ((try subst hM1)
               refine ⟨by first | omega | exact congrArg tkNum (by omega), ?_⟩
               exact step_lend hI (by omega) (by omega) (by omega) (by omega) (by omega)))
    · dsimp only [jpush]
      (try simp (disch := omega) only [jset_k, jset_j, jset_same, true_and, and_true, hA, cLend_hi] at w12)
      (try simp (disch := omega) only [jset_k, jset_j, jset_same, true_and, and_true, hA, cLend_hi])
      first
       | (exfalso; omega)
       | (skip
          refine e_iret dX12_pledge_15 ?_
          first
            | (exact ⟨by omega, hI⟩)
            | (exfalso; omega)
            | (subst hM1
               exact ⟨by omega, hI⟩)
            | ((try subst hM1)
               refine ⟨by first | omega | exact congrArg tkNum (by omega), ?_⟩
               exact step_lend hI (by omega) (by omega) (by omega) (by omega) (by omega)))
    · dsimp only [jpush]
      (try simp (disch := omega) only [jset_k, jset_j, jset_same, true_and, and_true, hA, cLend_hi] at w12)
      (try simp (disch := omega) only [jset_k, jset_j, jset_same, true_and, and_true, hA, cLend_hi])
      first
       | (exfalso; omega)
       | (skip
          refine e_iret dX12_pledge_15 ?_
          first
            | (exact ⟨by omega, hI⟩)
            | (exfalso; omega)
            | (subst hM1
               exact ⟨by omega, hI⟩)
            | ((try subst hM1)
               refine ⟨by first | omega | exact congrArg tkNum (by omega), ?_⟩
               exact step_lend hI (by omega) (by omega) (by omega) (by omega) (by omega)))
    · dsimp only [jpush]
      (try simp (disch := omega) only [jset_k, jset_j, jset_same, true_and, and_true, hA, cLend_hi] at w12)
      (try simp (disch := omega) only [jset_k, jset_j, jset_same, true_and, and_true, hA, cLend_hi])
      first
       | (exfalso; omega)
       | (skip
          refine e_iret dX12_pledge_15 ?_
          first
            | (exact ⟨by omega, hI⟩)
            | (exfalso; omega)
            | (subst hM1
               exact ⟨by omega, hI⟩)
            | ((try subst hM1)
               refine ⟨by first | omega | exact congrArg tkNum (by omega), ?_⟩
               exact step_lend hI (by omega) (by omega) (by omega) (by omega) (by omega)))
    · dsimp only [jpush]
      (try simp (disch := omega) only [jset_k, jset_j, jset_same, true_and, and_true, hA, cLend_hi] at w12)
      (try simp (disch := omega) only [jset_k, jset_j, jset_same, true_and, and_true, hA, cLend_hi])
      first
       | (exfalso; omega)
       | (skip
          refine e_iret dX12_pledge_15 ?_
          first
            | (exact ⟨by omega, hI⟩)
            | (exfalso; omega)
            | (subst hM1
               exact ⟨by omega, hI⟩)
            | ((try subst hM1)
               refine ⟨by first | omega | exact congrArg tkNum (by omega), ?_⟩
               exact step_lend hI (by omega) (by omega) (by omega) (by omega) (by omega)))

