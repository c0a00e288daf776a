/-! PAIRS: calls that only ask -/
theorem p_purse {M : jM} (hI : Inv M) {person : Int} (hperson : -2147483648 ≤ person ∧ person ≤ 2147483647) : jCt yX11_purse cX11_purse 2 (some .int) 2 [jR 0, jI person] M (fun z M1 => jCt yX12_purse cX12_purse 2 (some .int) 2 [jR 928, jI person] M1 (fun z2 M2 => z = z2 ∧ Inv M2)) := by
  have hC := hI.cr
  have hn := hC.cnt
  have hg := hC.rng
  refine jCt_of mt_yX11_purse (Nat.le_of_ble_eq_true rfl) (fun X => ?_)
  refine e_aload_n (i := 0) 1 dX11_purse_0 rfl rfl rfl ?_
  refine e_getr (j := 0) 4 fl_11_10 dX11_purse_1 at_0 rfl rfl tp_0_0 rfl ?_
  refine e_iload_n (i := 1) 5 dX11_purse_4 rfl rfl rfl ?_
  refine e_callV 8 mt_yX8_hasPerson mv_yX8_hasPerson wd_761 (by decide) dX11_purse_5 at_1 jc_8 rfl rfl rfl (Nat.le_of_ble_eq_true rfl) (jroom (by decide)) rfl (c_hasPerson (by omega) (fun w5 => ?_) (fun w5 => ?_))
  · dsimp only [jpush]
    refine e_if_eq 11 26 dX11_purse_8 (by decide) (by decide) rfl (fun h => absurd h (by decide)) (fun _ => ?_)
    refine e_aload_n (i := 0) 12 dX11_purse_11 rfl rfl rfl ?_
    refine e_getr (j := 0) 15 fl_11_10 dX11_purse_12 at_0 rfl rfl tp_0_0 rfl ?_
    refine e_getr (j := 7) 18 fl_11_149 dX11_purse_15 at_1 rfl rfl tp_1_7 rfl ?_
    refine e_iload_n (i := 1) 19 dX11_purse_18 rfl rfl rfl ?_
    refine e_aald 20 dX11_purse_19 ar_17 (by decide) (by omega) (by omega) (tp_person (by omega) (by omega)) rfl ?_
    refine e_geti (j := 3) 23 fl_11_164 dX11_purse_20 (at_person (by omega) (by omega)) (by decide) rfl rfl (fun r20 => ?_)
    refine e_goto 28 dX11_purse_23 (by decide) ?_
    refine e_iret dX11_purse_28 ?_
    refine jCt_of mt_yX12_purse (Nat.le_of_ble_eq_true rfl) (fun X2 => ?_)
    refine e_aload_n (i := 0) 1 dX12_purse_0 rfl rfl rfl ?_
    refine e_iconst 2 dX12_purse_1 rfl ?_
    refine e_put0 (j := 0) 5 fl_12_1 dX12_purse_2 at_928 rfl rfl rfl (by decide) hI.1 rfl ?_
    refine e_aload_n (i := 0) 6 dX12_purse_5 rfl rfl rfl ?_
    refine e_iload_n (i := 1) 7 dX12_purse_6 rfl rfl rfl ?_
    refine e_callV 10 mt_yX12_isPerson mv_yX12_isPerson wd_1506 (by decide) dX12_purse_7 at_928 jc_12 rfl rfl rfl (Nat.le_of_ble_eq_true rfl) (jroom (by decide)) rfl (m_isPerson (by omega) (fun w7 => ?_) (fun w7 => ?_))
    · dsimp only [jpush]
      first
       | (exfalso; omega)
       | (skip
          refine e_if_eq 13 26 dX12_purse_10 (by decide) (by decide) rfl (fun h => absurd h (by decide)) (fun _ => ?_)
          refine e_aload_n (i := 0) 14 dX12_purse_13 rfl rfl rfl ?_
          refine e_getr (j := 1) 17 fl_12_13 dX12_purse_14 at_928 rfl rfl tp_928_1 rfl ?_
          refine e_sipush 20 dX12_purse_17 (by decide) rfl ?_
          refine e_iload_n (i := 1) 21 dX12_purse_20 rfl rfl rfl ?_
          refine e_iadd 22 dX12_purse_21 rfl ?_
          refine e_iald 23 dX12_purse_22 ar_929 (by omega) (by omega) rfl (fun r22 => ?_)
          refine e_goto 28 dX12_purse_23 (by decide) ?_
          refine e_iret dX12_purse_28 ?_
          first
            | exact ⟨by omega, hI⟩
            | (have hq := hC.pers (p := person) (by omega) (by omega); exact ⟨by omega, hI⟩))
    · dsimp only [jpush]
      first
       | (exfalso; omega)
       | (skip
          refine e_if_eq 13 26 dX12_purse_10 (by decide) (by decide) rfl (fun _ => ?_) (fun h => absurd h (by decide))
          refine e_ldc (z := (-1000000)) 28 (ix := 218) wd_1510 (by decide) dX12_purse_26 rfl ?_
          refine e_iret dX12_purse_28 ?_
          first
            | exact ⟨by omega, hI⟩
            | (have hq := hC.pers (p := person) (by omega) (by omega); exact ⟨by omega, hI⟩))
  · dsimp only [jpush]
    refine e_if_eq 11 26 dX11_purse_8 (by decide) (by decide) rfl (fun _ => ?_) (fun h => absurd h (by decide))
    refine e_ldc (z := (-1000000)) 28 (ix := 173) wd_765 (by decide) dX11_purse_26 rfl ?_
    refine e_iret dX11_purse_28 ?_
    refine jCt_of mt_yX12_purse (Nat.le_of_ble_eq_true rfl) (fun X2 => ?_)
    refine e_aload_n (i := 0) 1 dX12_purse_0 rfl rfl rfl ?_
    refine e_iconst 2 dX12_purse_1 rfl ?_
    refine e_put0 (j := 0) 5 fl_12_1 dX12_purse_2 at_928 rfl rfl rfl (by decide) hI.1 rfl ?_
    refine e_aload_n (i := 0) 6 dX12_purse_5 rfl rfl rfl ?_
    refine e_iload_n (i := 1) 7 dX12_purse_6 rfl rfl rfl ?_
    refine e_callV 10 mt_yX12_isPerson mv_yX12_isPerson wd_1506 (by decide) dX12_purse_7 at_928 jc_12 rfl rfl rfl (Nat.le_of_ble_eq_true rfl) (jroom (by decide)) rfl (m_isPerson (by omega) (fun w7 => ?_) (fun w7 => ?_))
    · dsimp only [jpush]
      first
       | (exfalso; omega)
       | (skip
          refine e_if_eq 13 26 dX12_purse_10 (by decide) (by decide) rfl (fun h => absurd h (by decide)) (fun _ => ?_)
          refine e_aload_n (i := 0) 14 dX12_purse_13 rfl rfl rfl ?_
          refine e_getr (j := 1) 17 fl_12_13 dX12_purse_14 at_928 rfl rfl tp_928_1 rfl ?_
          refine e_sipush 20 dX12_purse_17 (by decide) rfl ?_
          refine e_iload_n (i := 1) 21 dX12_purse_20 rfl rfl rfl ?_
          refine e_iadd 22 dX12_purse_21 rfl ?_
          refine e_iald 23 dX12_purse_22 ar_929 (by omega) (by omega) rfl (fun r22 => ?_)
          refine e_goto 28 dX12_purse_23 (by decide) ?_
          refine e_iret dX12_purse_28 ?_
          first
            | exact ⟨by omega, hI⟩
            | (have hq := hC.pers (p := person) (by omega) (by omega); exact ⟨by omega, hI⟩))
    · dsimp only [jpush]
      first
       | (exfalso; omega)
       | (skip
          refine e_if_eq 13 26 dX12_purse_10 (by decide) (by decide) rfl (fun _ => ?_) (fun h => absurd h (by decide))
          refine e_ldc (z := (-1000000)) 28 (ix := 218) wd_1510 (by decide) dX12_purse_26 rfl ?_
          refine e_iret dX12_purse_28 ?_
          first
            | exact ⟨by omega, hI⟩
            | (have hq := hC.pers (p := person) (by omega) (by omega); exact ⟨by omega, hI⟩))

theorem p_ticket {M : jM} (hI : Inv M) {number : Int} (hnumber : -2147483648 ≤ number ∧ number ≤ 2147483647) : jCt yX11_ticket cX11_ticket 2 (some .int) 3 [jR 0, jI number] M (fun z M1 => jCt yX12_ticket cX12_ticket 2 (some .int) 2 [jR 928, jI number] M1 (fun z2 M2 => z = z2 ∧ Inv M2)) := by
  have hC := hI.cr
  have hn := hC.cnt
  have hg := hC.rng
  refine jCt_of mt_yX11_ticket (Nat.le_of_ble_eq_true rfl) (fun X => ?_)
  refine e_aload_n (i := 0) 1 dX11_ticket_0 rfl rfl rfl ?_
  refine e_getr (j := 0) 4 fl_11_10 dX11_ticket_1 at_0 rfl rfl tp_0_0 rfl ?_
  refine e_iload_n (i := 1) 5 dX11_ticket_4 rfl rfl rfl ?_
  refine e_callV 8 mt_yX8_standing mv_yX8_standing wd_804 (by decide) dX11_ticket_5 at_1 jc_8 rfl rfl rfl (Nat.le_of_ble_eq_true rfl) (jroom (by decide)) rfl (c_standing (by omega) hC (fun w5 => ?_) (fun w5 => ?_) (fun w5 => ?_) (fun w5 => ?_))
  · dsimp only [jpush]
    refine e_iret dX11_ticket_8 ?_
    refine jCt_of mt_yX12_ticket (Nat.le_of_ble_eq_true rfl) (fun X2 => ?_)
    refine e_aload_n (i := 0) 1 dX12_ticket_0 rfl rfl rfl ?_
    refine e_iconst 2 dX12_ticket_1 rfl ?_
    refine e_put0 (j := 0) 5 fl_12_1 dX12_ticket_2 at_928 rfl rfl rfl (by decide) hI.1 rfl ?_
    refine e_aload_n (i := 0) 6 dX12_ticket_5 rfl rfl rfl ?_
    refine e_iload_n (i := 1) 7 dX12_ticket_6 rfl rfl rfl ?_
    refine e_callV 10 mt_yX12_stateOf mv_yX12_stateOf wd_1535 (by decide) dX12_ticket_7 at_928 jc_12 rfl rfl rfl (Nat.le_of_ble_eq_true rfl) (jroom (by decide)) rfl (m_stateOf (by omega) hg.2.2.2.1 (fun t a b => (hC.tk a b).2.2.2.1) (fun w7 => ?_) (fun w7 => ?_) (fun w7 => ?_) (fun w7 => ?_))
    · dsimp only [jpush]
      first
       | (exfalso; omega)
       | (skip
          refine e_iret dX12_ticket_10 ?_
          first
            | exact ⟨by omega, hI⟩
            | (exfalso; (try simp only [tkBad, tkGood] at *); omega))
    · dsimp only [jpush]
      first
       | (exfalso; omega)
       | (skip
          refine e_iret dX12_ticket_10 ?_
          first
            | exact ⟨by omega, hI⟩
            | (exfalso; (try simp only [tkBad, tkGood] at *); omega))
    · dsimp only [jpush]
      first
       | (exfalso; omega)
       | (skip
          refine e_iret dX12_ticket_10 ?_
          first
            | exact ⟨by omega, hI⟩
            | (exfalso; (try simp only [tkBad, tkGood] at *); omega))
    · dsimp only [jpush]
      first
       | (exfalso; omega)
       | (skip
          refine e_iret dX12_ticket_10 ?_
          first
            | exact ⟨by omega, hI⟩
            | (exfalso; (try simp only [tkBad, tkGood] at *); omega))
  · dsimp only [jpush]
    refine e_iret dX11_ticket_8 ?_
    refine jCt_of mt_yX12_ticket (Nat.le_of_ble_eq_true rfl) (fun X2 => ?_)
    refine e_aload_n (i := 0) 1 dX12_ticket_0 rfl rfl rfl ?_
    refine e_iconst 2 dX12_ticket_1 rfl ?_
    refine e_put0 (j := 0) 5 fl_12_1 dX12_ticket_2 at_928 rfl rfl rfl (by decide) hI.1 rfl ?_
    refine e_aload_n (i := 0) 6 dX12_ticket_5 rfl rfl rfl ?_
    refine e_iload_n (i := 1) 7 dX12_ticket_6 rfl rfl rfl ?_
    refine e_callV 10 mt_yX12_stateOf mv_yX12_stateOf wd_1535 (by decide) dX12_ticket_7 at_928 jc_12 rfl rfl rfl (Nat.le_of_ble_eq_true rfl) (jroom (by decide)) rfl (m_stateOf (by omega) hg.2.2.2.1 (fun t a b => (hC.tk a b).2.2.2.1) (fun w7 => ?_) (fun w7 => ?_) (fun w7 => ?_) (fun w7 => ?_))
    · dsimp only [jpush]
      first
       | (exfalso; omega)
       | (skip
          refine e_iret dX12_ticket_10 ?_
          first
            | exact ⟨by omega, hI⟩
            | (exfalso; (try simp only [tkBad, tkGood] at *); omega))
    · dsimp only [jpush]
      first
       | (exfalso; omega)
       | (skip
          refine e_iret dX12_ticket_10 ?_
          first
            | exact ⟨by omega, hI⟩
            | (exfalso; (try simp only [tkBad, tkGood] at *); omega))
    · dsimp only [jpush]
      first
       | (exfalso; omega)
       | (skip
          refine e_iret dX12_ticket_10 ?_
          first
            | exact ⟨by omega, hI⟩
            | (exfalso; (try simp only [tkBad, tkGood] at *); omega))
    · dsimp only [jpush]
      first
       | (exfalso; omega)
       | (skip
          refine e_iret dX12_ticket_10 ?_
          first
            | exact ⟨by omega, hI⟩
            | (exfalso; (try simp only [tkBad, tkGood] at *); omega))
  · dsimp only [jpush]
    refine e_iret dX11_ticket_8 ?_
    refine jCt_of mt_yX12_ticket (Nat.le_of_ble_eq_true rfl) (fun X2 => ?_)
    refine e_aload_n (i := 0) 1 dX12_ticket_0 rfl rfl rfl ?_
    refine e_iconst 2 dX12_ticket_1 rfl ?_
    refine e_put0 (j := 0) 5 fl_12_1 dX12_ticket_2 at_928 rfl rfl rfl (by decide) hI.1 rfl ?_
    refine e_aload_n (i := 0) 6 dX12_ticket_5 rfl rfl rfl ?_
    refine e_iload_n (i := 1) 7 dX12_ticket_6 rfl rfl rfl ?_
    refine e_callV 10 mt_yX12_stateOf mv_yX12_stateOf wd_1535 (by decide) dX12_ticket_7 at_928 jc_12 rfl rfl rfl (Nat.le_of_ble_eq_true rfl) (jroom (by decide)) rfl (m_stateOf (by omega) hg.2.2.2.1 (fun t a b => (hC.tk a b).2.2.2.1) (fun w7 => ?_) (fun w7 => ?_) (fun w7 => ?_) (fun w7 => ?_))
    · dsimp only [jpush]
      first
       | (exfalso; omega)
       | (skip
          refine e_iret dX12_ticket_10 ?_
          first
            | exact ⟨by omega, hI⟩
            | (exfalso; (try simp only [tkBad, tkGood] at *); omega))
    · dsimp only [jpush]
      first
       | (exfalso; omega)
       | (skip
          refine e_iret dX12_ticket_10 ?_
          first
            | exact ⟨by omega, hI⟩
            | (exfalso; (try simp only [tkBad, tkGood] at *); omega))
    · dsimp only [jpush]
      first
       | (exfalso; omega)
       | (skip
          refine e_iret dX12_ticket_10 ?_
          first
            | exact ⟨by omega, hI⟩
            | (exfalso; (try simp only [tkBad, tkGood] at *); omega))
    · dsimp only [jpush]
      first
       | (exfalso; omega)
       | (skip
          refine e_iret dX12_ticket_10 ?_
          first
            | exact ⟨by omega, hI⟩
            | (exfalso; (try simp only [tkBad, tkGood] at *); omega))
  · dsimp only [jpush]
    refine e_iret dX11_ticket_8 ?_
    refine jCt_of mt_yX12_ticket (Nat.le_of_ble_eq_true rfl) (fun X2 => ?_)
    refine e_aload_n (i := 0) 1 dX12_ticket_0 rfl rfl rfl ?_
    refine e_iconst 2 dX12_ticket_1 rfl ?_
    refine e_put0 (j := 0) 5 fl_12_1 dX12_ticket_2 at_928 rfl rfl rfl (by decide) hI.1 rfl ?_
    refine e_aload_n (i := 0) 6 dX12_ticket_5 rfl rfl rfl ?_
    refine e_iload_n (i := 1) 7 dX12_ticket_6 rfl rfl rfl ?_
    refine e_callV 10 mt_yX12_stateOf mv_yX12_stateOf wd_1535 (by decide) dX12_ticket_7 at_928 jc_12 rfl rfl rfl (Nat.le_of_ble_eq_true rfl) (jroom (by decide)) rfl (m_stateOf (by omega) hg.2.2.2.1 (fun t a b => (hC.tk a b).2.2.2.1) (fun w7 => ?_) (fun w7 => ?_) (fun w7 => ?_) (fun w7 => ?_))
    · dsimp only [jpush]
      first
       | (exfalso; omega)
       | (skip
          refine e_iret dX12_ticket_10 ?_
          first
            | exact ⟨by omega, hI⟩
            | (exfalso; (try simp only [tkBad, tkGood] at *); omega))
    · dsimp only [jpush]
      first
       | (exfalso; omega)
       | (skip
          refine e_iret dX12_ticket_10 ?_
          first
            | exact ⟨by omega, hI⟩
            | (exfalso; (try simp only [tkBad, tkGood] at *); omega))
    · dsimp only [jpush]
      first
       | (exfalso; omega)
       | (skip
          refine e_iret dX12_ticket_10 ?_
          first
            | exact ⟨by omega, hI⟩
            | (exfalso; (try simp only [tkBad, tkGood] at *); omega))
    · dsimp only [jpush]
      first
       | (exfalso; omega)
       | (skip
          refine e_iret dX12_ticket_10 ?_
          first
            | exact ⟨by omega, hI⟩
            | (exfalso; (try simp only [tkBad, tkGood] at *); omega))

theorem p_fault {M : jM} (hI : Inv M) {what : Int} (hwhat : -2147483648 ≤ what ∧ what ≤ 2147483647) : jCt yX11_fault cX11_fault 2 (some .int) 1 [jR 0, jI what] M (fun z M1 => jCt yX12_fault cX12_fault 2 (some .int) 1 [jR 928, jI what] M1 (fun z2 M2 => z = z2 ∧ Inv M2)) := by
  have hC := hI.cr
  have hn := hC.cnt
  have hg := hC.rng
  refine jCt_of mt_yX11_fault (Nat.le_of_ble_eq_true rfl) (fun X => ?_)
  refine e_iload_n (i := 1) 1 dX11_fault_0 rfl rfl rfl ?_
  refine e_if_ne 4 12 dX11_fault_1 (by omega) (by decide) rfl (fun b1 => ?_) (fun b1 => ?_)
  · skip
    refine e_iload_n (i := 1) 13 dX11_fault_12 rfl rfl rfl ?_
    refine e_iconst 14 dX11_fault_13 rfl ?_
    refine e_icmp_ne 17 27 dX11_fault_14 (by omega) (by decide) (by decide) rfl (fun b14 => ?_) (fun b14 => ?_)
    · skip
      refine e_iconst 28 dX11_fault_27 rfl ?_
      refine e_iret dX11_fault_28 ?_
      refine jCt_of mt_yX12_fault (Nat.le_of_ble_eq_true rfl) (fun X2 => ?_)
      refine e_aload_n (i := 0) 1 dX12_fault_0 rfl rfl rfl ?_
      refine e_iconst 2 dX12_fault_1 rfl ?_
      refine e_put0 (j := 0) 5 fl_12_1 dX12_fault_2 at_928 rfl rfl rfl (by decide) hI.1 rfl ?_
      refine e_iload_n (i := 1) 6 dX12_fault_5 rfl rfl rfl ?_
      refine e_if_ne 9 16 dX12_fault_6 (by omega) (by decide) rfl (fun b6 => ?_) (fun b6 => ?_)
      · first
         | (exfalso; omega)
         | (skip
            refine e_iload_n (i := 1) 17 dX12_fault_16 rfl rfl rfl ?_
            refine e_iconst 18 dX12_fault_17 rfl ?_
            refine e_icmp_ne 21 28 dX12_fault_18 (by omega) (by decide) (by decide) rfl (fun b18 => ?_) (fun b18 => ?_)
            · first
               | (exfalso; omega)
               | (skip
                  refine e_iconst 29 dX12_fault_28 rfl ?_
                  refine e_iret dX12_fault_29 ?_
                  first
                    | exact ⟨by omega, hI⟩
                    | (have hq := hI.2.2.2.2.1; unfold IFault at hq; exact ⟨by omega, hI⟩))
            · first
               | (exfalso; omega)
               | (skip
                  refine e_aload_n (i := 0) 22 dX12_fault_21 rfl rfl rfl ?_
                  refine e_geti (j := 17) 25 fl_12_27 dX12_fault_22 at_928 (by decide) rfl rfl (fun r22 => ?_)
                  refine e_goto 29 dX12_fault_25 (by decide) ?_
                  refine e_iret dX12_fault_29 ?_
                  first
                    | exact ⟨by omega, hI⟩
                    | (have hq := hI.2.2.2.2.1; unfold IFault at hq; exact ⟨by omega, hI⟩)))
      · first
         | (exfalso; omega)
         | (skip
            refine e_aload_n (i := 0) 10 dX12_fault_9 rfl rfl rfl ?_
            refine e_geti (j := 16) 13 fl_12_195 dX12_fault_10 at_928 (by decide) rfl rfl (fun r10 => ?_)
            refine e_goto 29 dX12_fault_13 (by decide) ?_
            refine e_iret dX12_fault_29 ?_
            first
              | exact ⟨by omega, hI⟩
              | (have hq := hI.2.2.2.2.1; unfold IFault at hq; exact ⟨by omega, hI⟩))
    · skip
      refine e_aload_n (i := 0) 18 dX11_fault_17 rfl rfl rfl ?_
      refine e_getr (j := 3) 21 fl_11_27 dX11_fault_18 at_0 rfl rfl tp_0_3 rfl ?_
      refine e_geti (j := 5) 24 fl_11_99 dX11_fault_21 at_882 (by decide) rfl rfl (fun r21 => ?_)
      refine e_goto 28 dX11_fault_24 (by decide) ?_
      refine e_iret dX11_fault_28 ?_
      refine jCt_of mt_yX12_fault (Nat.le_of_ble_eq_true rfl) (fun X2 => ?_)
      refine e_aload_n (i := 0) 1 dX12_fault_0 rfl rfl rfl ?_
      refine e_iconst 2 dX12_fault_1 rfl ?_
      refine e_put0 (j := 0) 5 fl_12_1 dX12_fault_2 at_928 rfl rfl rfl (by decide) hI.1 rfl ?_
      refine e_iload_n (i := 1) 6 dX12_fault_5 rfl rfl rfl ?_
      refine e_if_ne 9 16 dX12_fault_6 (by omega) (by decide) rfl (fun b6 => ?_) (fun b6 => ?_)
      · first
         | (exfalso; omega)
         | (skip
            refine e_iload_n (i := 1) 17 dX12_fault_16 rfl rfl rfl ?_
            refine e_iconst 18 dX12_fault_17 rfl ?_
            refine e_icmp_ne 21 28 dX12_fault_18 (by omega) (by decide) (by decide) rfl (fun b18 => ?_) (fun b18 => ?_)
            · first
               | (exfalso; omega)
               | (skip
                  refine e_iconst 29 dX12_fault_28 rfl ?_
                  refine e_iret dX12_fault_29 ?_
                  first
                    | exact ⟨by omega, hI⟩
                    | (have hq := hI.2.2.2.2.1; unfold IFault at hq; exact ⟨by omega, hI⟩))
            · first
               | (exfalso; omega)
               | (skip
                  refine e_aload_n (i := 0) 22 dX12_fault_21 rfl rfl rfl ?_
                  refine e_geti (j := 17) 25 fl_12_27 dX12_fault_22 at_928 (by decide) rfl rfl (fun r22 => ?_)
                  refine e_goto 29 dX12_fault_25 (by decide) ?_
                  refine e_iret dX12_fault_29 ?_
                  first
                    | exact ⟨by omega, hI⟩
                    | (have hq := hI.2.2.2.2.1; unfold IFault at hq; exact ⟨by omega, hI⟩)))
      · first
         | (exfalso; omega)
         | (skip
            refine e_aload_n (i := 0) 10 dX12_fault_9 rfl rfl rfl ?_
            refine e_geti (j := 16) 13 fl_12_195 dX12_fault_10 at_928 (by decide) rfl rfl (fun r10 => ?_)
            refine e_goto 29 dX12_fault_13 (by decide) ?_
            refine e_iret dX12_fault_29 ?_
            first
              | exact ⟨by omega, hI⟩
              | (have hq := hI.2.2.2.2.1; unfold IFault at hq; exact ⟨by omega, hI⟩))
  · skip
    refine e_aload_n (i := 0) 5 dX11_fault_4 rfl rfl rfl ?_
    refine e_getr (j := 3) 8 fl_11_27 dX11_fault_5 at_0 rfl rfl tp_0_3 rfl ?_
    refine e_geti (j := 4) 11 fl_11_70 dX11_fault_8 at_882 (by decide) rfl rfl (fun r8 => ?_)
    refine e_iret dX11_fault_11 ?_
    refine jCt_of mt_yX12_fault (Nat.le_of_ble_eq_true rfl) (fun X2 => ?_)
    refine e_aload_n (i := 0) 1 dX12_fault_0 rfl rfl rfl ?_
    refine e_iconst 2 dX12_fault_1 rfl ?_
    refine e_put0 (j := 0) 5 fl_12_1 dX12_fault_2 at_928 rfl rfl rfl (by decide) hI.1 rfl ?_
    refine e_iload_n (i := 1) 6 dX12_fault_5 rfl rfl rfl ?_
    refine e_if_ne 9 16 dX12_fault_6 (by omega) (by decide) rfl (fun b6 => ?_) (fun b6 => ?_)
    · first
       | (exfalso; omega)
       | (skip
          refine e_iload_n (i := 1) 17 dX12_fault_16 rfl rfl rfl ?_
          refine e_iconst 18 dX12_fault_17 rfl ?_
          refine e_icmp_ne 21 28 dX12_fault_18 (by omega) (by decide) (by decide) rfl (fun b18 => ?_) (fun b18 => ?_)
          · first
             | (exfalso; omega)
             | (skip
                refine e_iconst 29 dX12_fault_28 rfl ?_
                refine e_iret dX12_fault_29 ?_
                first
                  | exact ⟨by omega, hI⟩
                  | (have hq := hI.2.2.2.2.1; unfold IFault at hq; exact ⟨by omega, hI⟩))
          · first
             | (exfalso; omega)
             | (skip
                refine e_aload_n (i := 0) 22 dX12_fault_21 rfl rfl rfl ?_
                refine e_geti (j := 17) 25 fl_12_27 dX12_fault_22 at_928 (by decide) rfl rfl (fun r22 => ?_)
                refine e_goto 29 dX12_fault_25 (by decide) ?_
                refine e_iret dX12_fault_29 ?_
                first
                  | exact ⟨by omega, hI⟩
                  | (have hq := hI.2.2.2.2.1; unfold IFault at hq; exact ⟨by omega, hI⟩)))
    · first
       | (exfalso; omega)
       | (skip
          refine e_aload_n (i := 0) 10 dX12_fault_9 rfl rfl rfl ?_
          refine e_geti (j := 16) 13 fl_12_195 dX12_fault_10 at_928 (by decide) rfl rfl (fun r10 => ?_)
          refine e_goto 29 dX12_fault_13 (by decide) ?_
          refine e_iret dX12_fault_29 ?_
          first
            | exact ⟨by omega, hI⟩
            | (have hq := hI.2.2.2.2.1; unfold IFault at hq; exact ⟨by omega, hI⟩))

theorem p_renewals {M : jM} (hI : Inv M) {pledge : Int} (hpledge : -2147483648 ≤ pledge ∧ pledge ≤ 2147483647) {what : Int} (hwhat : -2147483648 ≤ what ∧ what ≤ 2147483647) : jCt yX11_renewals cX11_renewals 3 (some .int) 2 [jR 0, jI pledge, jI what] M (fun z M1 => jCt yX12_renewals cX12_renewals 3 (some .int) 2 [jR 928, jI pledge, jI what] M1 (fun z2 M2 => z = z2 ∧ Inv M2)) := by
  have hC := hI.cr
  have hn := hC.cnt
  have hg := hC.rng
  refine jCt_of mt_yX11_renewals (Nat.le_of_ble_eq_true rfl) (fun X => ?_)
  refine e_aload_n (i := 0) 1 dX11_renewals_0 rfl rfl rfl ?_
  refine e_getr (j := 0) 4 fl_11_10 dX11_renewals_1 at_0 rfl rfl tp_0_0 rfl ?_
  refine e_iload_n (i := 1) 5 dX11_renewals_4 rfl rfl rfl ?_
  refine e_callV 8 mt_yX8_hasPledge mv_yX8_hasPledge wd_854 (by decide) dX11_renewals_5 at_1 jc_8 rfl rfl rfl (Nat.le_of_ble_eq_true rfl) (jroom (by decide)) rfl (c_hasPledge (by omega) (fun w5 => ?_) (fun w5 => ?_))
  · dsimp only [jpush]
    refine e_if_eq 11 20 dX11_renewals_8 (by decide) (by decide) rfl (fun h => absurd h (by decide)) (fun _ => ?_)
    refine e_iload_n (i := 2) 12 dX11_renewals_11 rfl rfl rfl ?_
    refine e_iconst 13 dX11_renewals_12 rfl ?_
    refine e_iconst 14 dX11_renewals_13 rfl ?_
    refine e_callS 17 mt_yX11_within ms_yX11_within wd_531 (by decide) dX11_renewals_14 rfl rfl (Nat.le_of_ble_eq_true rfl) (jroom (by decide)) rfl (c_within (by omega) (by omega) (by omega) (fun w14 => ?_) (fun w14 => ?_))
    · dsimp only [jpush]
      refine e_if_ne 20 23 dX11_renewals_17 (by decide) (by decide) rfl (fun _ => ?_) (fun h => absurd h (by decide))
      refine e_iload_n (i := 2) 24 dX11_renewals_23 rfl rfl rfl ?_
      refine e_if_ne 27 42 dX11_renewals_24 (by omega) (by decide) rfl (fun b24 => ?_) (fun b24 => ?_)
      · skip
        refine e_aload_n (i := 0) 43 dX11_renewals_42 rfl rfl rfl ?_
        refine e_getr (j := 0) 46 fl_11_10 dX11_renewals_43 at_0 rfl rfl tp_0_0 rfl ?_
        refine e_getr (j := 9) 49 fl_11_200 dX11_renewals_46 at_1 rfl rfl tp_1_9 rfl ?_
        refine e_iload_n (i := 1) 50 dX11_renewals_49 rfl rfl rfl ?_
        refine e_aald 51 dX11_renewals_50 ar_18 (by decide) (by omega) (by omega) (tp_pledge (by omega) (by omega)) rfl ?_
        refine e_geti (j := 12) 54 fl_11_235 dX11_renewals_51 (at_pledge (by omega) (by omega)) (by decide) rfl rfl (fun r51 => ?_)
        refine e_iret dX11_renewals_54 ?_
        refine jCt_of mt_yX12_renewals (Nat.le_of_ble_eq_true rfl) (fun X2 => ?_)
        refine e_aload_n (i := 0) 1 dX12_renewals_0 rfl rfl rfl ?_
        refine e_iconst 2 dX12_renewals_1 rfl ?_
        refine e_put0 (j := 0) 5 fl_12_1 dX12_renewals_2 at_928 rfl rfl rfl (by decide) hI.1 rfl ?_
        refine e_aload_n (i := 0) 6 dX12_renewals_5 rfl rfl rfl ?_
        refine e_iload_n (i := 1) 7 dX12_renewals_6 rfl rfl rfl ?_
        refine e_callV 10 mt_yX12_isPledge mv_yX12_isPledge wd_1579 (by decide) dX12_renewals_7 at_928 jc_12 rfl rfl rfl (Nat.le_of_ble_eq_true rfl) (jroom (by decide)) rfl (m_isPledge (by omega) (fun w7 => ?_) (fun w7 => ?_))
        · dsimp only [jpush]
          first
           | (exfalso; omega)
           | (skip
              refine e_if_eq 13 23 dX12_renewals_10 (by decide) (by decide) rfl (fun h => absurd h (by decide)) (fun _ => ?_)
              refine e_iload_n (i := 2) 14 dX12_renewals_13 rfl rfl rfl ?_
              refine e_i2l 15 dX12_renewals_14 (by omega) rfl ?_
              refine e_lconst0 16 dX12_renewals_15 rfl ?_
              refine e_lconst1 17 dX12_renewals_16 rfl ?_
              refine e_callS 20 mt_yX12_within ms_yX12_within wd_1390 (by decide) dX12_renewals_17 rfl rfl (Nat.le_of_ble_eq_true rfl) (jroom (by decide)) rfl (m_within (by omega) (by omega) (by omega) (fun w17 => ?_) (fun w17 => ?_))
              · dsimp only [jpush]
                first
                 | (exfalso; omega)
                 | (skip
                    refine e_if_ne 23 26 dX12_renewals_20 (by decide) (by decide) rfl (fun _ => ?_) (fun h => absurd h (by decide))
                    refine e_iload_n (i := 2) 27 dX12_renewals_26 rfl rfl rfl ?_
                    refine e_if_ne 30 43 dX12_renewals_27 (by omega) (by decide) rfl (fun b27 => ?_) (fun b27 => ?_)
                    · first
                       | (exfalso; omega)
                       | (skip
                          refine e_aload_n (i := 0) 44 dX12_renewals_43 rfl rfl rfl ?_
                          refine e_getr (j := 1) 47 fl_12_13 dX12_renewals_44 at_928 rfl rfl tp_928_1 rfl ?_
                          refine e_sipush 50 dX12_renewals_47 (by decide) rfl ?_
                          refine e_iload_n (i := 1) 51 dX12_renewals_50 rfl rfl rfl ?_
                          refine e_iadd 52 dX12_renewals_51 rfl ?_
                          refine e_iald 53 dX12_renewals_52 ar_929 (by omega) (by omega) rfl (fun r52 => ?_)
                          refine e_iret dX12_renewals_53 ?_
                          first
                            | exact ⟨by omega, hI⟩
                            | (have hq := hC.pl (p := pledge) (by omega) (by omega); exact ⟨by omega, hI⟩))
                    · first
                       | (exfalso; omega)
                       | (skip
                          refine e_aload_n (i := 0) 31 dX12_renewals_30 rfl rfl rfl ?_
                          refine e_getr (j := 1) 34 fl_12_13 dX12_renewals_31 at_928 rfl rfl tp_928_1 rfl ?_
                          refine e_sipush 37 dX12_renewals_34 (by decide) rfl ?_
                          refine e_iload_n (i := 1) 38 dX12_renewals_37 rfl rfl rfl ?_
                          refine e_iadd 39 dX12_renewals_38 rfl ?_
                          refine e_iald 40 dX12_renewals_39 ar_929 (by omega) (by omega) rfl (fun r39 => ?_)
                          refine e_goto 53 dX12_renewals_40 (by decide) ?_
                          refine e_iret dX12_renewals_53 ?_
                          first
                            | exact ⟨by omega, hI⟩
                            | (have hq := hC.pl (p := pledge) (by omega) (by omega); exact ⟨by omega, hI⟩)))
              · dsimp only [jpush]
                first
                 | (exfalso; omega)
                 | (skip
                    refine e_if_ne 23 26 dX12_renewals_20 (by decide) (by decide) rfl (fun h => absurd h (by decide)) (fun _ => ?_)
                    refine e_bipush 25 dX12_renewals_23 (by decide) rfl ?_
                    refine e_iret dX12_renewals_25 ?_
                    first
                      | exact ⟨by omega, hI⟩
                      | (have hq := hC.pl (p := pledge) (by omega) (by omega); exact ⟨by omega, hI⟩)))
        · dsimp only [jpush]
          first
           | (exfalso; omega)
           | (skip
              refine e_if_eq 13 23 dX12_renewals_10 (by decide) (by decide) rfl (fun _ => ?_) (fun h => absurd h (by decide))
              refine e_bipush 25 dX12_renewals_23 (by decide) rfl ?_
              refine e_iret dX12_renewals_25 ?_
              first
                | exact ⟨by omega, hI⟩
                | (have hq := hC.pl (p := pledge) (by omega) (by omega); exact ⟨by omega, hI⟩))
      · skip
        refine e_aload_n (i := 0) 28 dX11_renewals_27 rfl rfl rfl ?_
        refine e_getr (j := 0) 31 fl_11_10 dX11_renewals_28 at_0 rfl rfl tp_0_0 rfl ?_
        refine e_getr (j := 9) 34 fl_11_200 dX11_renewals_31 at_1 rfl rfl tp_1_9 rfl ?_
        refine e_iload_n (i := 1) 35 dX11_renewals_34 rfl rfl rfl ?_
        refine e_aald 36 dX11_renewals_35 ar_18 (by decide) (by omega) (by omega) (tp_pledge (by omega) (by omega)) rfl ?_
        refine e_geti (j := 11) 39 fl_11_232 dX11_renewals_36 (at_pledge (by omega) (by omega)) (by decide) rfl rfl (fun r36 => ?_)
        refine e_goto 54 dX11_renewals_39 (by decide) ?_
        refine e_iret dX11_renewals_54 ?_
        refine jCt_of mt_yX12_renewals (Nat.le_of_ble_eq_true rfl) (fun X2 => ?_)
        refine e_aload_n (i := 0) 1 dX12_renewals_0 rfl rfl rfl ?_
        refine e_iconst 2 dX12_renewals_1 rfl ?_
        refine e_put0 (j := 0) 5 fl_12_1 dX12_renewals_2 at_928 rfl rfl rfl (by decide) hI.1 rfl ?_
        refine e_aload_n (i := 0) 6 dX12_renewals_5 rfl rfl rfl ?_
        refine e_iload_n (i := 1) 7 dX12_renewals_6 rfl rfl rfl ?_
        refine e_callV 10 mt_yX12_isPledge mv_yX12_isPledge wd_1579 (by decide) dX12_renewals_7 at_928 jc_12 rfl rfl rfl (Nat.le_of_ble_eq_true rfl) (jroom (by decide)) rfl (m_isPledge (by omega) (fun w7 => ?_) (fun w7 => ?_))
        · dsimp only [jpush]
          first
           | (exfalso; omega)
           | (skip
              refine e_if_eq 13 23 dX12_renewals_10 (by decide) (by decide) rfl (fun h => absurd h (by decide)) (fun _ => ?_)
              refine e_iload_n (i := 2) 14 dX12_renewals_13 rfl rfl rfl ?_
              refine e_i2l 15 dX12_renewals_14 (by omega) rfl ?_
              refine e_lconst0 16 dX12_renewals_15 rfl ?_
              refine e_lconst1 17 dX12_renewals_16 rfl ?_
              refine e_callS 20 mt_yX12_within ms_yX12_within wd_1390 (by decide) dX12_renewals_17 rfl rfl (Nat.le_of_ble_eq_true rfl) (jroom (by decide)) rfl (m_within (by omega) (by omega) (by omega) (fun w17 => ?_) (fun w17 => ?_))
              · dsimp only [jpush]
                first
                 | (exfalso; omega)
                 | (skip
                    refine e_if_ne 23 26 dX12_renewals_20 (by decide) (by decide) rfl (fun _ => ?_) (fun h => absurd h (by decide))
                    refine e_iload_n (i := 2) 27 dX12_renewals_26 rfl rfl rfl ?_
                    refine e_if_ne 30 43 dX12_renewals_27 (by omega) (by decide) rfl (fun b27 => ?_) (fun b27 => ?_)
                    · first
                       | (exfalso; omega)
                       | (skip
                          refine e_aload_n (i := 0) 44 dX12_renewals_43 rfl rfl rfl ?_
                          refine e_getr (j := 1) 47 fl_12_13 dX12_renewals_44 at_928 rfl rfl tp_928_1 rfl ?_
                          refine e_sipush 50 dX12_renewals_47 (by decide) rfl ?_
                          refine e_iload_n (i := 1) 51 dX12_renewals_50 rfl rfl rfl ?_
                          refine e_iadd 52 dX12_renewals_51 rfl ?_
                          refine e_iald 53 dX12_renewals_52 ar_929 (by omega) (by omega) rfl (fun r52 => ?_)
                          refine e_iret dX12_renewals_53 ?_
                          first
                            | exact ⟨by omega, hI⟩
                            | (have hq := hC.pl (p := pledge) (by omega) (by omega); exact ⟨by omega, hI⟩))
                    · first
                       | (exfalso; omega)
                       | (skip
                          refine e_aload_n (i := 0) 31 dX12_renewals_30 rfl rfl rfl ?_
                          refine e_getr (j := 1) 34 fl_12_13 dX12_renewals_31 at_928 rfl rfl tp_928_1 rfl ?_
                          refine e_sipush 37 dX12_renewals_34 (by decide) rfl ?_
                          refine e_iload_n (i := 1) 38 dX12_renewals_37 rfl rfl rfl ?_
                          refine e_iadd 39 dX12_renewals_38 rfl ?_
                          refine e_iald 40 dX12_renewals_39 ar_929 (by omega) (by omega) rfl (fun r39 => ?_)
                          refine e_goto 53 dX12_renewals_40 (by decide) ?_
                          refine e_iret dX12_renewals_53 ?_
                          first
                            | exact ⟨by omega, hI⟩
                            | (have hq := hC.pl (p := pledge) (by omega) (by omega); exact ⟨by omega, hI⟩)))
              · dsimp only [jpush]
                first
                 | (exfalso; omega)
                 | (skip
                    refine e_if_ne 23 26 dX12_renewals_20 (by decide) (by decide) rfl (fun h => absurd h (by decide)) (fun _ => ?_)
                    refine e_bipush 25 dX12_renewals_23 (by decide) rfl ?_
                    refine e_iret dX12_renewals_25 ?_
                    first
                      | exact ⟨by omega, hI⟩
                      | (have hq := hC.pl (p := pledge) (by omega) (by omega); exact ⟨by omega, hI⟩)))
        · dsimp only [jpush]
          first
           | (exfalso; omega)
           | (skip
              refine e_if_eq 13 23 dX12_renewals_10 (by decide) (by decide) rfl (fun _ => ?_) (fun h => absurd h (by decide))
              refine e_bipush 25 dX12_renewals_23 (by decide) rfl ?_
              refine e_iret dX12_renewals_25 ?_
              first
                | exact ⟨by omega, hI⟩
                | (have hq := hC.pl (p := pledge) (by omega) (by omega); exact ⟨by omega, hI⟩))
    · dsimp only [jpush]
      refine e_if_ne 20 23 dX11_renewals_17 (by decide) (by decide) rfl (fun h => absurd h (by decide)) (fun _ => ?_)
      refine e_bipush 22 dX11_renewals_20 (by decide) rfl ?_
      refine e_iret dX11_renewals_22 ?_
      refine jCt_of mt_yX12_renewals (Nat.le_of_ble_eq_true rfl) (fun X2 => ?_)
      refine e_aload_n (i := 0) 1 dX12_renewals_0 rfl rfl rfl ?_
      refine e_iconst 2 dX12_renewals_1 rfl ?_
      refine e_put0 (j := 0) 5 fl_12_1 dX12_renewals_2 at_928 rfl rfl rfl (by decide) hI.1 rfl ?_
      refine e_aload_n (i := 0) 6 dX12_renewals_5 rfl rfl rfl ?_
      refine e_iload_n (i := 1) 7 dX12_renewals_6 rfl rfl rfl ?_
      refine e_callV 10 mt_yX12_isPledge mv_yX12_isPledge wd_1579 (by decide) dX12_renewals_7 at_928 jc_12 rfl rfl rfl (Nat.le_of_ble_eq_true rfl) (jroom (by decide)) rfl (m_isPledge (by omega) (fun w7 => ?_) (fun w7 => ?_))
      · dsimp only [jpush]
        first
         | (exfalso; omega)
         | (skip
            refine e_if_eq 13 23 dX12_renewals_10 (by decide) (by decide) rfl (fun h => absurd h (by decide)) (fun _ => ?_)
            refine e_iload_n (i := 2) 14 dX12_renewals_13 rfl rfl rfl ?_
            refine e_i2l 15 dX12_renewals_14 (by omega) rfl ?_
            refine e_lconst0 16 dX12_renewals_15 rfl ?_
            refine e_lconst1 17 dX12_renewals_16 rfl ?_
            refine e_callS 20 mt_yX12_within ms_yX12_within wd_1390 (by decide) dX12_renewals_17 rfl rfl (Nat.le_of_ble_eq_true rfl) (jroom (by decide)) rfl (m_within (by omega) (by omega) (by omega) (fun w17 => ?_) (fun w17 => ?_))
            · dsimp only [jpush]
              first
               | (exfalso; omega)
               | (skip
                  refine e_if_ne 23 26 dX12_renewals_20 (by decide) (by decide) rfl (fun _ => ?_) (fun h => absurd h (by decide))
                  refine e_iload_n (i := 2) 27 dX12_renewals_26 rfl rfl rfl ?_
                  refine e_if_ne 30 43 dX12_renewals_27 (by omega) (by decide) rfl (fun b27 => ?_) (fun b27 => ?_)
                  · first
                     | (exfalso; omega)
                     | (skip
                        refine e_aload_n (i := 0) 44 dX12_renewals_43 rfl rfl rfl ?_
                        refine e_getr (j := 1) 47 fl_12_13 dX12_renewals_44 at_928 rfl rfl tp_928_1 rfl ?_
                        refine e_sipush 50 dX12_renewals_47 (by decide) rfl ?_
                        refine e_iload_n (i := 1) 51 dX12_renewals_50 rfl rfl rfl ?_
                        refine e_iadd 52 dX12_renewals_51 rfl ?_
                        refine e_iald 53 dX12_renewals_52 ar_929 (by omega) (by omega) rfl (fun r52 => ?_)
                        refine e_iret dX12_renewals_53 ?_
                        first
                          | exact ⟨by omega, hI⟩
                          | (have hq := hC.pl (p := pledge) (by omega) (by omega); exact ⟨by omega, hI⟩))
                  · first
                     | (exfalso; omega)
                     | (skip
                        refine e_aload_n (i := 0) 31 dX12_renewals_30 rfl rfl rfl ?_
                        refine e_getr (j := 1) 34 fl_12_13 dX12_renewals_31 at_928 rfl rfl tp_928_1 rfl ?_
                        refine e_sipush 37 dX12_renewals_34 (by decide) rfl ?_
                        refine e_iload_n (i := 1) 38 dX12_renewals_37 rfl rfl rfl ?_
                        refine e_iadd 39 dX12_renewals_38 rfl ?_
                        refine e_iald 40 dX12_renewals_39 ar_929 (by omega) (by omega) rfl (fun r39 => ?_)
                        refine e_goto 53 dX12_renewals_40 (by decide) ?_
                        refine e_iret dX12_renewals_53 ?_
                        first
                          | exact ⟨by omega, hI⟩
                          | (have hq := hC.pl (p := pledge) (by omega) (by omega); exact ⟨by omega, hI⟩)))
            · dsimp only [jpush]
              first
               | (exfalso; omega)
               | (skip
                  refine e_if_ne 23 26 dX12_renewals_20 (by decide) (by decide) rfl (fun h => absurd h (by decide)) (fun _ => ?_)
                  refine e_bipush 25 dX12_renewals_23 (by decide) rfl ?_
                  refine e_iret dX12_renewals_25 ?_
                  first
                    | exact ⟨by omega, hI⟩
                    | (have hq := hC.pl (p := pledge) (by omega) (by omega); exact ⟨by omega, hI⟩)))
      · dsimp only [jpush]
        first
         | (exfalso; omega)
         | (skip
            refine e_if_eq 13 23 dX12_renewals_10 (by decide) (by decide) rfl (fun _ => ?_) (fun h => absurd h (by decide))
            refine e_bipush 25 dX12_renewals_23 (by decide) rfl ?_
            refine e_iret dX12_renewals_25 ?_
            first
              | exact ⟨by omega, hI⟩
              | (have hq := hC.pl (p := pledge) (by omega) (by omega); exact ⟨by omega, hI⟩))
  · dsimp only [jpush]
    refine e_if_eq 11 20 dX11_renewals_8 (by decide) (by decide) rfl (fun _ => ?_) (fun h => absurd h (by decide))
    refine e_bipush 22 dX11_renewals_20 (by decide) rfl ?_
    refine e_iret dX11_renewals_22 ?_
    refine jCt_of mt_yX12_renewals (Nat.le_of_ble_eq_true rfl) (fun X2 => ?_)
    refine e_aload_n (i := 0) 1 dX12_renewals_0 rfl rfl rfl ?_
    refine e_iconst 2 dX12_renewals_1 rfl ?_
    refine e_put0 (j := 0) 5 fl_12_1 dX12_renewals_2 at_928 rfl rfl rfl (by decide) hI.1 rfl ?_
    refine e_aload_n (i := 0) 6 dX12_renewals_5 rfl rfl rfl ?_
    refine e_iload_n (i := 1) 7 dX12_renewals_6 rfl rfl rfl ?_
    refine e_callV 10 mt_yX12_isPledge mv_yX12_isPledge wd_1579 (by decide) dX12_renewals_7 at_928 jc_12 rfl rfl rfl (Nat.le_of_ble_eq_true rfl) (jroom (by decide)) rfl (m_isPledge (by omega) (fun w7 => ?_) (fun w7 => ?_))
    · dsimp only [jpush]
      first
       | (exfalso; omega)
       | (skip
          refine e_if_eq 13 23 dX12_renewals_10 (by decide) (by decide) rfl (fun h => absurd h (by decide)) (fun _ => ?_)
          refine e_iload_n (i := 2) 14 dX12_renewals_13 rfl rfl rfl ?_
          refine e_i2l 15 dX12_renewals_14 (by omega) rfl ?_
          refine e_lconst0 16 dX12_renewals_15 rfl ?_
          refine e_lconst1 17 dX12_renewals_16 rfl ?_
          refine e_callS 20 mt_yX12_within ms_yX12_within wd_1390 (by decide) dX12_renewals_17 rfl rfl (Nat.le_of_ble_eq_true rfl) (jroom (by decide)) rfl (m_within (by omega) (by omega) (by omega) (fun w17 => ?_) (fun w17 => ?_))
          · dsimp only [jpush]
            first
             | (exfalso; omega)
             | (skip
                refine e_if_ne 23 26 dX12_renewals_20 (by decide) (by decide) rfl (fun _ => ?_) (fun h => absurd h (by decide))
                refine e_iload_n (i := 2) 27 dX12_renewals_26 rfl rfl rfl ?_
                refine e_if_ne 30 43 dX12_renewals_27 (by omega) (by decide) rfl (fun b27 => ?_) (fun b27 => ?_)
                · first
                   | (exfalso; omega)
                   | (skip
                      refine e_aload_n (i := 0) 44 dX12_renewals_43 rfl rfl rfl ?_
                      refine e_getr (j := 1) 47 fl_12_13 dX12_renewals_44 at_928 rfl rfl tp_928_1 rfl ?_
                      refine e_sipush 50 dX12_renewals_47 (by decide) rfl ?_
                      refine e_iload_n (i := 1) 51 dX12_renewals_50 rfl rfl rfl ?_
                      refine e_iadd 52 dX12_renewals_51 rfl ?_
                      refine e_iald 53 dX12_renewals_52 ar_929 (by omega) (by omega) rfl (fun r52 => ?_)
                      refine e_iret dX12_renewals_53 ?_
                      first
                        | exact ⟨by omega, hI⟩
                        | (have hq := hC.pl (p := pledge) (by omega) (by omega); exact ⟨by omega, hI⟩))
                · first
                   | (exfalso; omega)
                   | (skip
                      refine e_aload_n (i := 0) 31 dX12_renewals_30 rfl rfl rfl ?_
                      refine e_getr (j := 1) 34 fl_12_13 dX12_renewals_31 at_928 rfl rfl tp_928_1 rfl ?_
                      refine e_sipush 37 dX12_renewals_34 (by decide) rfl ?_
                      refine e_iload_n (i := 1) 38 dX12_renewals_37 rfl rfl rfl ?_
                      refine e_iadd 39 dX12_renewals_38 rfl ?_
                      refine e_iald 40 dX12_renewals_39 ar_929 (by omega) (by omega) rfl (fun r39 => ?_)
                      refine e_goto 53 dX12_renewals_40 (by decide) ?_
                      refine e_iret dX12_renewals_53 ?_
                      first
                        | exact ⟨by omega, hI⟩
                        | (have hq := hC.pl (p := pledge) (by omega) (by omega); exact ⟨by omega, hI⟩)))
          · dsimp only [jpush]
            first
             | (exfalso; omega)
             | (skip
                refine e_if_ne 23 26 dX12_renewals_20 (by decide) (by decide) rfl (fun h => absurd h (by decide)) (fun _ => ?_)
                refine e_bipush 25 dX12_renewals_23 (by decide) rfl ?_
                refine e_iret dX12_renewals_25 ?_
                first
                  | exact ⟨by omega, hI⟩
                  | (have hq := hC.pl (p := pledge) (by omega) (by omega); exact ⟨by omega, hI⟩)))
    · dsimp only [jpush]
      first
       | (exfalso; omega)
       | (skip
          refine e_if_eq 13 23 dX12_renewals_10 (by decide) (by decide) rfl (fun _ => ?_) (fun h => absurd h (by decide))
          refine e_bipush 25 dX12_renewals_23 (by decide) rfl ?_
          refine e_iret dX12_renewals_25 ?_
          first
            | exact ⟨by omega, hI⟩
            | (have hq := hC.pl (p := pledge) (by omega) (by omega); exact ⟨by omega, hI⟩))

theorem p_book {M : jM} (hI : Inv M) {week : Int} (hweek : -2147483648 ≤ week ∧ week ≤ 2147483647) {what : Int} (hwhat : -2147483648 ≤ what ∧ what ≤ 2147483647) : jCt yX11_book cX11_book 3 (some .int) 2 [jR 0, jI week, jI what] M (fun z M1 => jCt yX12_book cX12_book 3 (some .int) 2 [jR 928, jI week, jI what] M1 (fun z2 M2 => z = z2 ∧ Inv M2)) := by
  have hC := hI.cr
  have hn := hC.cnt
  have hg := hC.rng
  refine jCt_of mt_yX11_book (Nat.le_of_ble_eq_true rfl) (fun X => ?_)
  refine e_iload_n (i := 1) 1 dX11_book_0 rfl rfl rfl ?_
  refine e_iconst 2 dX11_book_1 rfl ?_
  refine e_aload_n (i := 0) 3 dX11_book_2 rfl rfl rfl ?_
  refine e_getr (j := 0) 6 fl_11_10 dX11_book_3 at_0 rfl rfl tp_0_0 rfl ?_
  refine e_geti (j := 4) 9 fl_11_174 dX11_book_6 at_1 (by decide) rfl rfl (fun r6 => ?_)
  refine e_callS 12 mt_yX11_within ms_yX11_within wd_531 (by decide) dX11_book_9 rfl rfl (Nat.le_of_ble_eq_true rfl) (jroom (by decide)) rfl (c_within (by omega) (by omega) (by omega) (fun w9 => ?_) (fun w9 => ?_))
  · dsimp only [jpush]
    refine e_if_eq 15 24 dX11_book_12 (by decide) (by decide) rfl (fun h => absurd h (by decide)) (fun _ => ?_)
    refine e_iload_n (i := 2) 16 dX11_book_15 rfl rfl rfl ?_
    refine e_iconst 17 dX11_book_16 rfl ?_
    refine e_iconst 18 dX11_book_17 rfl ?_
    refine e_callS 21 mt_yX11_within ms_yX11_within wd_531 (by decide) dX11_book_18 rfl rfl (Nat.le_of_ble_eq_true rfl) (jroom (by decide)) rfl (c_within (by omega) (by omega) (by omega) (fun w18 => ?_) (fun w18 => ?_))
    · dsimp only [jpush]
      refine e_if_ne 24 27 dX11_book_21 (by decide) (by decide) rfl (fun _ => ?_) (fun h => absurd h (by decide))
      refine e_aload_n (i := 0) 28 dX11_book_27 rfl rfl rfl ?_
      refine e_getr (j := 0) 31 fl_11_10 dX11_book_28 at_0 rfl rfl tp_0_0 rfl ?_
      refine e_getr (j := 15) 34 fl_11_381 dX11_book_31 at_1 rfl rfl tp_1_15 rfl ?_
      refine e_iload_n (i := 2) 35 dX11_book_34 rfl rfl rfl ?_
      refine e_aaldi 36 dX11_book_35 ar_31 (by omega) (by omega) (tp_bookrow (by omega) (by omega)) rfl ?_
      refine e_iload_n (i := 1) 37 dX11_book_36 rfl rfl rfl ?_
      refine e_iald 38 dX11_book_37 (ar_bookrow (by omega) (by omega)) (by omega) (by omega) rfl (fun r37 => ?_)
      refine e_iret dX11_book_38 ?_
      refine jCt_of mt_yX12_book (Nat.le_of_ble_eq_true rfl) (fun X2 => ?_)
      refine e_aload_n (i := 0) 1 dX12_book_0 rfl rfl rfl ?_
      refine e_iconst 2 dX12_book_1 rfl ?_
      refine e_put0 (j := 0) 5 fl_12_1 dX12_book_2 at_928 rfl rfl rfl (by decide) hI.1 rfl ?_
      refine e_iload_n (i := 1) 6 dX12_book_5 rfl rfl rfl ?_
      refine e_i2l 7 dX12_book_6 (by omega) rfl ?_
      refine e_lconst0 8 dX12_book_7 rfl ?_
      refine e_aload_n (i := 0) 9 dX12_book_8 rfl rfl rfl ?_
      refine e_getr (j := 1) 12 fl_12_13 dX12_book_9 at_928 rfl rfl tp_928_1 rfl ?_
      refine e_sipush 15 dX12_book_12 (by decide) rfl ?_
      refine e_iald 16 dX12_book_15 ar_929 (by decide) (by decide) rfl (fun r15 => ?_)
      refine e_i2l 17 dX12_book_16 (by omega) rfl ?_
      refine e_callS 20 mt_yX12_within ms_yX12_within wd_1390 (by decide) dX12_book_17 rfl rfl (Nat.le_of_ble_eq_true rfl) (jroom (by decide)) rfl (m_within (by omega) (by omega) (by omega) (fun w17 => ?_) (fun w17 => ?_))
      · dsimp only [jpush]
        first
         | (exfalso; omega)
         | (skip
            refine e_if_eq 23 35 dX12_book_20 (by decide) (by decide) rfl (fun h => absurd h (by decide)) (fun _ => ?_)
            refine e_iload_n (i := 2) 24 dX12_book_23 rfl rfl rfl ?_
            refine e_i2l 25 dX12_book_24 (by omega) rfl ?_
            refine e_lconst0 26 dX12_book_25 rfl ?_
            refine e_ldc2 (z := (4)) 29 (ix := 326) wd_1724 (by decide) dX12_book_26 rfl ?_
            refine e_callS 32 mt_yX12_within ms_yX12_within wd_1390 (by decide) dX12_book_29 rfl rfl (Nat.le_of_ble_eq_true rfl) (jroom (by decide)) rfl (m_within (by omega) (by omega) (by omega) (fun w29 => ?_) (fun w29 => ?_))
            · dsimp only [jpush]
              first
               | (exfalso; omega)
               | (skip
                  refine e_if_ne 35 38 dX12_book_32 (by decide) (by decide) rfl (fun _ => ?_) (fun h => absurd h (by decide))
                  refine e_iload_n (i := 2) 39 dX12_book_38 rfl rfl rfl ?_
                  refine e_tsw 112 dX12_book_39 (by omega) (by decide) (fun c0 hc0 hz0 => ?_) (fun b39 => ?_)
                  · have hcc : c0 = 0 ∨ c0 = 1 ∨ c0 = 2 ∨ c0 = 3 := by omega
                    rcases hcc with b39 | b39 | b39 | b39
                    · subst b39
                      refine ⟨_, 68, rfl, by decide, ?_⟩
                      first
                       | (exfalso; omega)
                       | (skip
                          refine e_aload_n (i := 0) 69 dX12_book_68 rfl rfl rfl ?_
                          refine e_getr (j := 1) 72 fl_12_13 dX12_book_69 at_928 rfl rfl tp_928_1 rfl ?_
                          refine e_sipush 75 dX12_book_72 (by decide) rfl ?_
                          refine e_iload_n (i := 1) 76 dX12_book_75 rfl rfl rfl ?_
                          refine e_iadd 77 dX12_book_76 rfl ?_
                          refine e_iald 78 dX12_book_77 ar_929 (by omega) (by omega) rfl (fun r77 => ?_)
                          refine e_iret dX12_book_78 ?_
                          first
                            | exact ⟨by omega, hI⟩
                            | (have hq := hC.bk (w := week) (by omega) (by omega)
                               have q0 : M (32 + 0) week = M 929 (1782 + week) := hq.1
                               have q1 : M (32 + 1) week = M 929 (2083 + week) := hq.2.1
                               have q2 : M (32 + 2) week = M 929 (2384 + week) := hq.2.2.1
                               have q3 : M (32 + 3) week = M 929 (2685 + week) := hq.2.2.2.1
                               have q4 : M (32 + 4) week = M 929 (2986 + week) := hq.2.2.2.2.1
                               rcases (by omega : what = 0 ∨ what = 1 ∨ what = 2 ∨ what = 3 ∨ what = 4) with e | e | e | e | e <;> subst e <;> exact ⟨by omega, hI⟩))
                    · subst b39
                      refine ⟨_, 79, rfl, by decide, ?_⟩
                      first
                       | (exfalso; omega)
                       | (skip
                          refine e_aload_n (i := 0) 80 dX12_book_79 rfl rfl rfl ?_
                          refine e_getr (j := 1) 83 fl_12_13 dX12_book_80 at_928 rfl rfl tp_928_1 rfl ?_
                          refine e_sipush 86 dX12_book_83 (by decide) rfl ?_
                          refine e_iload_n (i := 1) 87 dX12_book_86 rfl rfl rfl ?_
                          refine e_iadd 88 dX12_book_87 rfl ?_
                          refine e_iald 89 dX12_book_88 ar_929 (by omega) (by omega) rfl (fun r88 => ?_)
                          refine e_iret dX12_book_89 ?_
                          first
                            | exact ⟨by omega, hI⟩
                            | (have hq := hC.bk (w := week) (by omega) (by omega)
                               have q0 : M (32 + 0) week = M 929 (1782 + week) := hq.1
                               have q1 : M (32 + 1) week = M 929 (2083 + week) := hq.2.1
                               have q2 : M (32 + 2) week = M 929 (2384 + week) := hq.2.2.1
                               have q3 : M (32 + 3) week = M 929 (2685 + week) := hq.2.2.2.1
                               have q4 : M (32 + 4) week = M 929 (2986 + week) := hq.2.2.2.2.1
                               rcases (by omega : what = 0 ∨ what = 1 ∨ what = 2 ∨ what = 3 ∨ what = 4) with e | e | e | e | e <;> subst e <;> exact ⟨by omega, hI⟩))
                    · subst b39
                      refine ⟨_, 90, rfl, by decide, ?_⟩
                      first
                       | (exfalso; omega)
                       | (skip
                          refine e_aload_n (i := 0) 91 dX12_book_90 rfl rfl rfl ?_
                          refine e_getr (j := 1) 94 fl_12_13 dX12_book_91 at_928 rfl rfl tp_928_1 rfl ?_
                          refine e_sipush 97 dX12_book_94 (by decide) rfl ?_
                          refine e_iload_n (i := 1) 98 dX12_book_97 rfl rfl rfl ?_
                          refine e_iadd 99 dX12_book_98 rfl ?_
                          refine e_iald 100 dX12_book_99 ar_929 (by omega) (by omega) rfl (fun r99 => ?_)
                          refine e_iret dX12_book_100 ?_
                          first
                            | exact ⟨by omega, hI⟩
                            | (have hq := hC.bk (w := week) (by omega) (by omega)
                               have q0 : M (32 + 0) week = M 929 (1782 + week) := hq.1
                               have q1 : M (32 + 1) week = M 929 (2083 + week) := hq.2.1
                               have q2 : M (32 + 2) week = M 929 (2384 + week) := hq.2.2.1
                               have q3 : M (32 + 3) week = M 929 (2685 + week) := hq.2.2.2.1
                               have q4 : M (32 + 4) week = M 929 (2986 + week) := hq.2.2.2.2.1
                               rcases (by omega : what = 0 ∨ what = 1 ∨ what = 2 ∨ what = 3 ∨ what = 4) with e | e | e | e | e <;> subst e <;> exact ⟨by omega, hI⟩))
                    · subst b39
                      refine ⟨_, 101, rfl, by decide, ?_⟩
                      first
                       | (exfalso; omega)
                       | (skip
                          refine e_aload_n (i := 0) 102 dX12_book_101 rfl rfl rfl ?_
                          refine e_getr (j := 1) 105 fl_12_13 dX12_book_102 at_928 rfl rfl tp_928_1 rfl ?_
                          refine e_sipush 108 dX12_book_105 (by decide) rfl ?_
                          refine e_iload_n (i := 1) 109 dX12_book_108 rfl rfl rfl ?_
                          refine e_iadd 110 dX12_book_109 rfl ?_
                          refine e_iald 111 dX12_book_110 ar_929 (by omega) (by omega) rfl (fun r110 => ?_)
                          refine e_iret dX12_book_111 ?_
                          first
                            | exact ⟨by omega, hI⟩
                            | (have hq := hC.bk (w := week) (by omega) (by omega)
                               have q0 : M (32 + 0) week = M 929 (1782 + week) := hq.1
                               have q1 : M (32 + 1) week = M 929 (2083 + week) := hq.2.1
                               have q2 : M (32 + 2) week = M 929 (2384 + week) := hq.2.2.1
                               have q3 : M (32 + 3) week = M 929 (2685 + week) := hq.2.2.2.1
                               have q4 : M (32 + 4) week = M 929 (2986 + week) := hq.2.2.2.2.1
                               rcases (by omega : what = 0 ∨ what = 1 ∨ what = 2 ∨ what = 3 ∨ what = 4) with e | e | e | e | e <;> subst e <;> exact ⟨by omega, hI⟩))
                  · skip
                    refine e_aload_n (i := 0) 113 dX12_book_112 rfl rfl rfl ?_
                    refine e_getr (j := 1) 116 fl_12_13 dX12_book_113 at_928 rfl rfl tp_928_1 rfl ?_
                    refine e_sipush 119 dX12_book_116 (by decide) rfl ?_
                    refine e_iload_n (i := 1) 120 dX12_book_119 rfl rfl rfl ?_
                    refine e_iadd 121 dX12_book_120 rfl ?_
                    refine e_iald 122 dX12_book_121 ar_929 (by omega) (by omega) rfl (fun r121 => ?_)
                    refine e_iret dX12_book_122 ?_
                    first
                      | exact ⟨by omega, hI⟩
                      | (have hq := hC.bk (w := week) (by omega) (by omega)
                         have q0 : M (32 + 0) week = M 929 (1782 + week) := hq.1
                         have q1 : M (32 + 1) week = M 929 (2083 + week) := hq.2.1
                         have q2 : M (32 + 2) week = M 929 (2384 + week) := hq.2.2.1
                         have q3 : M (32 + 3) week = M 929 (2685 + week) := hq.2.2.2.1
                         have q4 : M (32 + 4) week = M 929 (2986 + week) := hq.2.2.2.2.1
                         rcases (by omega : what = 0 ∨ what = 1 ∨ what = 2 ∨ what = 3 ∨ what = 4) with e | e | e | e | e <;> subst e <;> exact ⟨by omega, hI⟩))
            · dsimp only [jpush]
              first
               | (exfalso; omega)
               | (skip
                  refine e_if_ne 35 38 dX12_book_32 (by decide) (by decide) rfl (fun h => absurd h (by decide)) (fun _ => ?_)
                  refine e_bipush 37 dX12_book_35 (by decide) rfl ?_
                  refine e_iret dX12_book_37 ?_
                  first
                    | exact ⟨by omega, hI⟩
                    | (have hq := hC.bk (w := week) (by omega) (by omega)
                       have q0 : M (32 + 0) week = M 929 (1782 + week) := hq.1
                       have q1 : M (32 + 1) week = M 929 (2083 + week) := hq.2.1
                       have q2 : M (32 + 2) week = M 929 (2384 + week) := hq.2.2.1
                       have q3 : M (32 + 3) week = M 929 (2685 + week) := hq.2.2.2.1
                       have q4 : M (32 + 4) week = M 929 (2986 + week) := hq.2.2.2.2.1
                       rcases (by omega : what = 0 ∨ what = 1 ∨ what = 2 ∨ what = 3 ∨ what = 4) with e | e | e | e | e <;> subst e <;> exact ⟨by omega, hI⟩)))
      · dsimp only [jpush]
        first
         | (exfalso; omega)
         | (skip
            refine e_if_eq 23 35 dX12_book_20 (by decide) (by decide) rfl (fun _ => ?_) (fun h => absurd h (by decide))
            refine e_bipush 37 dX12_book_35 (by decide) rfl ?_
            refine e_iret dX12_book_37 ?_
            first
              | exact ⟨by omega, hI⟩
              | (have hq := hC.bk (w := week) (by omega) (by omega)
                 have q0 : M (32 + 0) week = M 929 (1782 + week) := hq.1
                 have q1 : M (32 + 1) week = M 929 (2083 + week) := hq.2.1
                 have q2 : M (32 + 2) week = M 929 (2384 + week) := hq.2.2.1
                 have q3 : M (32 + 3) week = M 929 (2685 + week) := hq.2.2.2.1
                 have q4 : M (32 + 4) week = M 929 (2986 + week) := hq.2.2.2.2.1
                 rcases (by omega : what = 0 ∨ what = 1 ∨ what = 2 ∨ what = 3 ∨ what = 4) with e | e | e | e | e <;> subst e <;> exact ⟨by omega, hI⟩))
    · dsimp only [jpush]
      refine e_if_ne 24 27 dX11_book_21 (by decide) (by decide) rfl (fun h => absurd h (by decide)) (fun _ => ?_)
      refine e_bipush 26 dX11_book_24 (by decide) rfl ?_
      refine e_iret dX11_book_26 ?_
      refine jCt_of mt_yX12_book (Nat.le_of_ble_eq_true rfl) (fun X2 => ?_)
      refine e_aload_n (i := 0) 1 dX12_book_0 rfl rfl rfl ?_
      refine e_iconst 2 dX12_book_1 rfl ?_
      refine e_put0 (j := 0) 5 fl_12_1 dX12_book_2 at_928 rfl rfl rfl (by decide) hI.1 rfl ?_
      refine e_iload_n (i := 1) 6 dX12_book_5 rfl rfl rfl ?_
      refine e_i2l 7 dX12_book_6 (by omega) rfl ?_
      refine e_lconst0 8 dX12_book_7 rfl ?_
      refine e_aload_n (i := 0) 9 dX12_book_8 rfl rfl rfl ?_
      refine e_getr (j := 1) 12 fl_12_13 dX12_book_9 at_928 rfl rfl tp_928_1 rfl ?_
      refine e_sipush 15 dX12_book_12 (by decide) rfl ?_
      refine e_iald 16 dX12_book_15 ar_929 (by decide) (by decide) rfl (fun r15 => ?_)
      refine e_i2l 17 dX12_book_16 (by omega) rfl ?_
      refine e_callS 20 mt_yX12_within ms_yX12_within wd_1390 (by decide) dX12_book_17 rfl rfl (Nat.le_of_ble_eq_true rfl) (jroom (by decide)) rfl (m_within (by omega) (by omega) (by omega) (fun w17 => ?_) (fun w17 => ?_))
      · dsimp only [jpush]
        first
         | (exfalso; omega)
         | (skip
            refine e_if_eq 23 35 dX12_book_20 (by decide) (by decide) rfl (fun h => absurd h (by decide)) (fun _ => ?_)
            refine e_iload_n (i := 2) 24 dX12_book_23 rfl rfl rfl ?_
            refine e_i2l 25 dX12_book_24 (by omega) rfl ?_
            refine e_lconst0 26 dX12_book_25 rfl ?_
            refine e_ldc2 (z := (4)) 29 (ix := 326) wd_1724 (by decide) dX12_book_26 rfl ?_
            refine e_callS 32 mt_yX12_within ms_yX12_within wd_1390 (by decide) dX12_book_29 rfl rfl (Nat.le_of_ble_eq_true rfl) (jroom (by decide)) rfl (m_within (by omega) (by omega) (by omega) (fun w29 => ?_) (fun w29 => ?_))
            · dsimp only [jpush]
              first
               | (exfalso; omega)
               | (skip
                  refine e_if_ne 35 38 dX12_book_32 (by decide) (by decide) rfl (fun _ => ?_) (fun h => absurd h (by decide))
                  refine e_iload_n (i := 2) 39 dX12_book_38 rfl rfl rfl ?_
                  refine e_tsw 112 dX12_book_39 (by omega) (by decide) (fun c0 hc0 hz0 => ?_) (fun b39 => ?_)
                  · have hcc : c0 = 0 ∨ c0 = 1 ∨ c0 = 2 ∨ c0 = 3 := by omega
                    rcases hcc with b39 | b39 | b39 | b39
                    · subst b39
                      refine ⟨_, 68, rfl, by decide, ?_⟩
                      first
                       | (exfalso; omega)
                       | (skip
                          refine e_aload_n (i := 0) 69 dX12_book_68 rfl rfl rfl ?_
                          refine e_getr (j := 1) 72 fl_12_13 dX12_book_69 at_928 rfl rfl tp_928_1 rfl ?_
                          refine e_sipush 75 dX12_book_72 (by decide) rfl ?_
                          refine e_iload_n (i := 1) 76 dX12_book_75 rfl rfl rfl ?_
                          refine e_iadd 77 dX12_book_76 rfl ?_
                          refine e_iald 78 dX12_book_77 ar_929 (by omega) (by omega) rfl (fun r77 => ?_)
                          refine e_iret dX12_book_78 ?_
                          first
                            | exact ⟨by omega, hI⟩
                            | (have hq := hC.bk (w := week) (by omega) (by omega)
                               have q0 : M (32 + 0) week = M 929 (1782 + week) := hq.1
                               have q1 : M (32 + 1) week = M 929 (2083 + week) := hq.2.1
                               have q2 : M (32 + 2) week = M 929 (2384 + week) := hq.2.2.1
                               have q3 : M (32 + 3) week = M 929 (2685 + week) := hq.2.2.2.1
                               have q4 : M (32 + 4) week = M 929 (2986 + week) := hq.2.2.2.2.1
                               rcases (by omega : what = 0 ∨ what = 1 ∨ what = 2 ∨ what = 3 ∨ what = 4) with e | e | e | e | e <;> subst e <;> exact ⟨by omega, hI⟩))
                    · subst b39
                      refine ⟨_, 79, rfl, by decide, ?_⟩
                      first
                       | (exfalso; omega)
                       | (skip
                          refine e_aload_n (i := 0) 80 dX12_book_79 rfl rfl rfl ?_
                          refine e_getr (j := 1) 83 fl_12_13 dX12_book_80 at_928 rfl rfl tp_928_1 rfl ?_
                          refine e_sipush 86 dX12_book_83 (by decide) rfl ?_
                          refine e_iload_n (i := 1) 87 dX12_book_86 rfl rfl rfl ?_
                          refine e_iadd 88 dX12_book_87 rfl ?_
                          refine e_iald 89 dX12_book_88 ar_929 (by omega) (by omega) rfl (fun r88 => ?_)
                          refine e_iret dX12_book_89 ?_
                          first
                            | exact ⟨by omega, hI⟩
                            | (have hq := hC.bk (w := week) (by omega) (by omega)
                               have q0 : M (32 + 0) week = M 929 (1782 + week) := hq.1
                               have q1 : M (32 + 1) week = M 929 (2083 + week) := hq.2.1
                               have q2 : M (32 + 2) week = M 929 (2384 + week) := hq.2.2.1
                               have q3 : M (32 + 3) week = M 929 (2685 + week) := hq.2.2.2.1
                               have q4 : M (32 + 4) week = M 929 (2986 + week) := hq.2.2.2.2.1
                               rcases (by omega : what = 0 ∨ what = 1 ∨ what = 2 ∨ what = 3 ∨ what = 4) with e | e | e | e | e <;> subst e <;> exact ⟨by omega, hI⟩))
                    · subst b39
                      refine ⟨_, 90, rfl, by decide, ?_⟩
                      first
                       | (exfalso; omega)
                       | (skip
                          refine e_aload_n (i := 0) 91 dX12_book_90 rfl rfl rfl ?_
                          refine e_getr (j := 1) 94 fl_12_13 dX12_book_91 at_928 rfl rfl tp_928_1 rfl ?_
                          refine e_sipush 97 dX12_book_94 (by decide) rfl ?_
                          refine e_iload_n (i := 1) 98 dX12_book_97 rfl rfl rfl ?_
                          refine e_iadd 99 dX12_book_98 rfl ?_
                          refine e_iald 100 dX12_book_99 ar_929 (by omega) (by omega) rfl (fun r99 => ?_)
                          refine e_iret dX12_book_100 ?_
                          first
                            | exact ⟨by omega, hI⟩
                            | (have hq := hC.bk (w := week) (by omega) (by omega)
                               have q0 : M (32 + 0) week = M 929 (1782 + week) := hq.1
                               have q1 : M (32 + 1) week = M 929 (2083 + week) := hq.2.1
                               have q2 : M (32 + 2) week = M 929 (2384 + week) := hq.2.2.1
                               have q3 : M (32 + 3) week = M 929 (2685 + week) := hq.2.2.2.1
                               have q4 : M (32 + 4) week = M 929 (2986 + week) := hq.2.2.2.2.1
                               rcases (by omega : what = 0 ∨ what = 1 ∨ what = 2 ∨ what = 3 ∨ what = 4) with e | e | e | e | e <;> subst e <;> exact ⟨by omega, hI⟩))
                    · subst b39
                      refine ⟨_, 101, rfl, by decide, ?_⟩
                      first
                       | (exfalso; omega)
                       | (skip
                          refine e_aload_n (i := 0) 102 dX12_book_101 rfl rfl rfl ?_
                          refine e_getr (j := 1) 105 fl_12_13 dX12_book_102 at_928 rfl rfl tp_928_1 rfl ?_
                          refine e_sipush 108 dX12_book_105 (by decide) rfl ?_
                          refine e_iload_n (i := 1) 109 dX12_book_108 rfl rfl rfl ?_
                          refine e_iadd 110 dX12_book_109 rfl ?_
                          refine e_iald 111 dX12_book_110 ar_929 (by omega) (by omega) rfl (fun r110 => ?_)
                          refine e_iret dX12_book_111 ?_
                          first
                            | exact ⟨by omega, hI⟩
                            | (have hq := hC.bk (w := week) (by omega) (by omega)
                               have q0 : M (32 + 0) week = M 929 (1782 + week) := hq.1
                               have q1 : M (32 + 1) week = M 929 (2083 + week) := hq.2.1
                               have q2 : M (32 + 2) week = M 929 (2384 + week) := hq.2.2.1
                               have q3 : M (32 + 3) week = M 929 (2685 + week) := hq.2.2.2.1
                               have q4 : M (32 + 4) week = M 929 (2986 + week) := hq.2.2.2.2.1
                               rcases (by omega : what = 0 ∨ what = 1 ∨ what = 2 ∨ what = 3 ∨ what = 4) with e | e | e | e | e <;> subst e <;> exact ⟨by omega, hI⟩))
                  · skip
                    refine e_aload_n (i := 0) 113 dX12_book_112 rfl rfl rfl ?_
                    refine e_getr (j := 1) 116 fl_12_13 dX12_book_113 at_928 rfl rfl tp_928_1 rfl ?_
                    refine e_sipush 119 dX12_book_116 (by decide) rfl ?_
                    refine e_iload_n (i := 1) 120 dX12_book_119 rfl rfl rfl ?_
                    refine e_iadd 121 dX12_book_120 rfl ?_
                    refine e_iald 122 dX12_book_121 ar_929 (by omega) (by omega) rfl (fun r121 => ?_)
                    refine e_iret dX12_book_122 ?_
                    first
                      | exact ⟨by omega, hI⟩
                      | (have hq := hC.bk (w := week) (by omega) (by omega)
                         have q0 : M (32 + 0) week = M 929 (1782 + week) := hq.1
                         have q1 : M (32 + 1) week = M 929 (2083 + week) := hq.2.1
                         have q2 : M (32 + 2) week = M 929 (2384 + week) := hq.2.2.1
                         have q3 : M (32 + 3) week = M 929 (2685 + week) := hq.2.2.2.1
                         have q4 : M (32 + 4) week = M 929 (2986 + week) := hq.2.2.2.2.1
                         rcases (by omega : what = 0 ∨ what = 1 ∨ what = 2 ∨ what = 3 ∨ what = 4) with e | e | e | e | e <;> subst e <;> exact ⟨by omega, hI⟩))
            · dsimp only [jpush]
              first
               | (exfalso; omega)
               | (skip
                  refine e_if_ne 35 38 dX12_book_32 (by decide) (by decide) rfl (fun h => absurd h (by decide)) (fun _ => ?_)
                  refine e_bipush 37 dX12_book_35 (by decide) rfl ?_
                  refine e_iret dX12_book_37 ?_
                  first
                    | exact ⟨by omega, hI⟩
                    | (have hq := hC.bk (w := week) (by omega) (by omega)
                       have q0 : M (32 + 0) week = M 929 (1782 + week) := hq.1
                       have q1 : M (32 + 1) week = M 929 (2083 + week) := hq.2.1
                       have q2 : M (32 + 2) week = M 929 (2384 + week) := hq.2.2.1
                       have q3 : M (32 + 3) week = M 929 (2685 + week) := hq.2.2.2.1
                       have q4 : M (32 + 4) week = M 929 (2986 + week) := hq.2.2.2.2.1
                       rcases (by omega : what = 0 ∨ what = 1 ∨ what = 2 ∨ what = 3 ∨ what = 4) with e | e | e | e | e <;> subst e <;> exact ⟨by omega, hI⟩)))
      · dsimp only [jpush]
        first
         | (exfalso; omega)
         | (skip
            refine e_if_eq 23 35 dX12_book_20 (by decide) (by decide) rfl (fun _ => ?_) (fun h => absurd h (by decide))
            refine e_bipush 37 dX12_book_35 (by decide) rfl ?_
            refine e_iret dX12_book_37 ?_
            first
              | exact ⟨by omega, hI⟩
              | (have hq := hC.bk (w := week) (by omega) (by omega)
                 have q0 : M (32 + 0) week = M 929 (1782 + week) := hq.1
                 have q1 : M (32 + 1) week = M 929 (2083 + week) := hq.2.1
                 have q2 : M (32 + 2) week = M 929 (2384 + week) := hq.2.2.1
                 have q3 : M (32 + 3) week = M 929 (2685 + week) := hq.2.2.2.1
                 have q4 : M (32 + 4) week = M 929 (2986 + week) := hq.2.2.2.2.1
                 rcases (by omega : what = 0 ∨ what = 1 ∨ what = 2 ∨ what = 3 ∨ what = 4) with e | e | e | e | e <;> subst e <;> exact ⟨by omega, hI⟩))
  · dsimp only [jpush]
    refine e_if_eq 15 24 dX11_book_12 (by decide) (by decide) rfl (fun _ => ?_) (fun h => absurd h (by decide))
    refine e_bipush 26 dX11_book_24 (by decide) rfl ?_
    refine e_iret dX11_book_26 ?_
    refine jCt_of mt_yX12_book (Nat.le_of_ble_eq_true rfl) (fun X2 => ?_)
    refine e_aload_n (i := 0) 1 dX12_book_0 rfl rfl rfl ?_
    refine e_iconst 2 dX12_book_1 rfl ?_
    refine e_put0 (j := 0) 5 fl_12_1 dX12_book_2 at_928 rfl rfl rfl (by decide) hI.1 rfl ?_
    refine e_iload_n (i := 1) 6 dX12_book_5 rfl rfl rfl ?_
    refine e_i2l 7 dX12_book_6 (by omega) rfl ?_
    refine e_lconst0 8 dX12_book_7 rfl ?_
    refine e_aload_n (i := 0) 9 dX12_book_8 rfl rfl rfl ?_
    refine e_getr (j := 1) 12 fl_12_13 dX12_book_9 at_928 rfl rfl tp_928_1 rfl ?_
    refine e_sipush 15 dX12_book_12 (by decide) rfl ?_
    refine e_iald 16 dX12_book_15 ar_929 (by decide) (by decide) rfl (fun r15 => ?_)
    refine e_i2l 17 dX12_book_16 (by omega) rfl ?_
    refine e_callS 20 mt_yX12_within ms_yX12_within wd_1390 (by decide) dX12_book_17 rfl rfl (Nat.le_of_ble_eq_true rfl) (jroom (by decide)) rfl (m_within (by omega) (by omega) (by omega) (fun w17 => ?_) (fun w17 => ?_))
    · dsimp only [jpush]
      first
       | (exfalso; omega)
       | (skip
          refine e_if_eq 23 35 dX12_book_20 (by decide) (by decide) rfl (fun h => absurd h (by decide)) (fun _ => ?_)
          refine e_iload_n (i := 2) 24 dX12_book_23 rfl rfl rfl ?_
          refine e_i2l 25 dX12_book_24 (by omega) rfl ?_
          refine e_lconst0 26 dX12_book_25 rfl ?_
          refine e_ldc2 (z := (4)) 29 (ix := 326) wd_1724 (by decide) dX12_book_26 rfl ?_
          refine e_callS 32 mt_yX12_within ms_yX12_within wd_1390 (by decide) dX12_book_29 rfl rfl (Nat.le_of_ble_eq_true rfl) (jroom (by decide)) rfl (m_within (by omega) (by omega) (by omega) (fun w29 => ?_) (fun w29 => ?_))
          · dsimp only [jpush]
            first
             | (exfalso; omega)
             | (skip
                refine e_if_ne 35 38 dX12_book_32 (by decide) (by decide) rfl (fun _ => ?_) (fun h => absurd h (by decide))
                refine e_iload_n (i := 2) 39 dX12_book_38 rfl rfl rfl ?_
                refine e_tsw 112 dX12_book_39 (by omega) (by decide) (fun c0 hc0 hz0 => ?_) (fun b39 => ?_)
                · have hcc : c0 = 0 ∨ c0 = 1 ∨ c0 = 2 ∨ c0 = 3 := by omega
                  rcases hcc with b39 | b39 | b39 | b39
                  · subst b39
                    refine ⟨_, 68, rfl, by decide, ?_⟩
                    first
                     | (exfalso; omega)
                     | (skip
                        refine e_aload_n (i := 0) 69 dX12_book_68 rfl rfl rfl ?_
                        refine e_getr (j := 1) 72 fl_12_13 dX12_book_69 at_928 rfl rfl tp_928_1 rfl ?_
                        refine e_sipush 75 dX12_book_72 (by decide) rfl ?_
                        refine e_iload_n (i := 1) 76 dX12_book_75 rfl rfl rfl ?_
                        refine e_iadd 77 dX12_book_76 rfl ?_
                        refine e_iald 78 dX12_book_77 ar_929 (by omega) (by omega) rfl (fun r77 => ?_)
                        refine e_iret dX12_book_78 ?_
                        first
                          | exact ⟨by omega, hI⟩
                          | (have hq := hC.bk (w := week) (by omega) (by omega)
                             have q0 : M (32 + 0) week = M 929 (1782 + week) := hq.1
                             have q1 : M (32 + 1) week = M 929 (2083 + week) := hq.2.1
                             have q2 : M (32 + 2) week = M 929 (2384 + week) := hq.2.2.1
                             have q3 : M (32 + 3) week = M 929 (2685 + week) := hq.2.2.2.1
                             have q4 : M (32 + 4) week = M 929 (2986 + week) := hq.2.2.2.2.1
                             rcases (by omega : what = 0 ∨ what = 1 ∨ what = 2 ∨ what = 3 ∨ what = 4) with e | e | e | e | e <;> subst e <;> exact ⟨by omega, hI⟩))
                  · subst b39
                    refine ⟨_, 79, rfl, by decide, ?_⟩
                    first
                     | (exfalso; omega)
                     | (skip
                        refine e_aload_n (i := 0) 80 dX12_book_79 rfl rfl rfl ?_
                        refine e_getr (j := 1) 83 fl_12_13 dX12_book_80 at_928 rfl rfl tp_928_1 rfl ?_
                        refine e_sipush 86 dX12_book_83 (by decide) rfl ?_
                        refine e_iload_n (i := 1) 87 dX12_book_86 rfl rfl rfl ?_
                        refine e_iadd 88 dX12_book_87 rfl ?_
                        refine e_iald 89 dX12_book_88 ar_929 (by omega) (by omega) rfl (fun r88 => ?_)
                        refine e_iret dX12_book_89 ?_
                        first
                          | exact ⟨by omega, hI⟩
                          | (have hq := hC.bk (w := week) (by omega) (by omega)
                             have q0 : M (32 + 0) week = M 929 (1782 + week) := hq.1
                             have q1 : M (32 + 1) week = M 929 (2083 + week) := hq.2.1
                             have q2 : M (32 + 2) week = M 929 (2384 + week) := hq.2.2.1
                             have q3 : M (32 + 3) week = M 929 (2685 + week) := hq.2.2.2.1
                             have q4 : M (32 + 4) week = M 929 (2986 + week) := hq.2.2.2.2.1
                             rcases (by omega : what = 0 ∨ what = 1 ∨ what = 2 ∨ what = 3 ∨ what = 4) with e | e | e | e | e <;> subst e <;> exact ⟨by omega, hI⟩))
                  · subst b39
                    refine ⟨_, 90, rfl, by decide, ?_⟩
                    first
                     | (exfalso; omega)
                     | (skip
                        refine e_aload_n (i := 0) 91 dX12_book_90 rfl rfl rfl ?_
                        refine e_getr (j := 1) 94 fl_12_13 dX12_book_91 at_928 rfl rfl tp_928_1 rfl ?_
                        refine e_sipush 97 dX12_book_94 (by decide) rfl ?_
                        refine e_iload_n (i := 1) 98 dX12_book_97 rfl rfl rfl ?_
                        refine e_iadd 99 dX12_book_98 rfl ?_
                        refine e_iald 100 dX12_book_99 ar_929 (by omega) (by omega) rfl (fun r99 => ?_)
                        refine e_iret dX12_book_100 ?_
                        first
                          | exact ⟨by omega, hI⟩
                          | (have hq := hC.bk (w := week) (by omega) (by omega)
                             have q0 : M (32 + 0) week = M 929 (1782 + week) := hq.1
                             have q1 : M (32 + 1) week = M 929 (2083 + week) := hq.2.1
                             have q2 : M (32 + 2) week = M 929 (2384 + week) := hq.2.2.1
                             have q3 : M (32 + 3) week = M 929 (2685 + week) := hq.2.2.2.1
                             have q4 : M (32 + 4) week = M 929 (2986 + week) := hq.2.2.2.2.1
                             rcases (by omega : what = 0 ∨ what = 1 ∨ what = 2 ∨ what = 3 ∨ what = 4) with e | e | e | e | e <;> subst e <;> exact ⟨by omega, hI⟩))
                  · subst b39
                    refine ⟨_, 101, rfl, by decide, ?_⟩
                    first
                     | (exfalso; omega)
                     | (skip
                        refine e_aload_n (i := 0) 102 dX12_book_101 rfl rfl rfl ?_
                        refine e_getr (j := 1) 105 fl_12_13 dX12_book_102 at_928 rfl rfl tp_928_1 rfl ?_
                        refine e_sipush 108 dX12_book_105 (by decide) rfl ?_
                        refine e_iload_n (i := 1) 109 dX12_book_108 rfl rfl rfl ?_
                        refine e_iadd 110 dX12_book_109 rfl ?_
                        refine e_iald 111 dX12_book_110 ar_929 (by omega) (by omega) rfl (fun r110 => ?_)
                        refine e_iret dX12_book_111 ?_
                        first
                          | exact ⟨by omega, hI⟩
                          | (have hq := hC.bk (w := week) (by omega) (by omega)
                             have q0 : M (32 + 0) week = M 929 (1782 + week) := hq.1
                             have q1 : M (32 + 1) week = M 929 (2083 + week) := hq.2.1
                             have q2 : M (32 + 2) week = M 929 (2384 + week) := hq.2.2.1
                             have q3 : M (32 + 3) week = M 929 (2685 + week) := hq.2.2.2.1
                             have q4 : M (32 + 4) week = M 929 (2986 + week) := hq.2.2.2.2.1
                             rcases (by omega : what = 0 ∨ what = 1 ∨ what = 2 ∨ what = 3 ∨ what = 4) with e | e | e | e | e <;> subst e <;> exact ⟨by omega, hI⟩))
                · skip
                  refine e_aload_n (i := 0) 113 dX12_book_112 rfl rfl rfl ?_
                  refine e_getr (j := 1) 116 fl_12_13 dX12_book_113 at_928 rfl rfl tp_928_1 rfl ?_
                  refine e_sipush 119 dX12_book_116 (by decide) rfl ?_
                  refine e_iload_n (i := 1) 120 dX12_book_119 rfl rfl rfl ?_
                  refine e_iadd 121 dX12_book_120 rfl ?_
                  refine e_iald 122 dX12_book_121 ar_929 (by omega) (by omega) rfl (fun r121 => ?_)
                  refine e_iret dX12_book_122 ?_
                  first
                    | exact ⟨by omega, hI⟩
                    | (have hq := hC.bk (w := week) (by omega) (by omega)
                       have q0 : M (32 + 0) week = M 929 (1782 + week) := hq.1
                       have q1 : M (32 + 1) week = M 929 (2083 + week) := hq.2.1
                       have q2 : M (32 + 2) week = M 929 (2384 + week) := hq.2.2.1
                       have q3 : M (32 + 3) week = M 929 (2685 + week) := hq.2.2.2.1
                       have q4 : M (32 + 4) week = M 929 (2986 + week) := hq.2.2.2.2.1
                       rcases (by omega : what = 0 ∨ what = 1 ∨ what = 2 ∨ what = 3 ∨ what = 4) with e | e | e | e | e <;> subst e <;> exact ⟨by omega, hI⟩))
          · dsimp only [jpush]
            first
             | (exfalso; omega)
             | (skip
                refine e_if_ne 35 38 dX12_book_32 (by decide) (by decide) rfl (fun h => absurd h (by decide)) (fun _ => ?_)
                refine e_bipush 37 dX12_book_35 (by decide) rfl ?_
                refine e_iret dX12_book_37 ?_
                first
                  | exact ⟨by omega, hI⟩
                  | (have hq := hC.bk (w := week) (by omega) (by omega)
                     have q0 : M (32 + 0) week = M 929 (1782 + week) := hq.1
                     have q1 : M (32 + 1) week = M 929 (2083 + week) := hq.2.1
                     have q2 : M (32 + 2) week = M 929 (2384 + week) := hq.2.2.1
                     have q3 : M (32 + 3) week = M 929 (2685 + week) := hq.2.2.2.1
                     have q4 : M (32 + 4) week = M 929 (2986 + week) := hq.2.2.2.2.1
                     rcases (by omega : what = 0 ∨ what = 1 ∨ what = 2 ∨ what = 3 ∨ what = 4) with e | e | e | e | e <;> subst e <;> exact ⟨by omega, hI⟩)))
    · dsimp only [jpush]
      first
       | (exfalso; omega)
       | (skip
          refine e_if_eq 23 35 dX12_book_20 (by decide) (by decide) rfl (fun _ => ?_) (fun h => absurd h (by decide))
          refine e_bipush 37 dX12_book_35 (by decide) rfl ?_
          refine e_iret dX12_book_37 ?_
          first
            | exact ⟨by omega, hI⟩
            | (have hq := hC.bk (w := week) (by omega) (by omega)
               have q0 : M (32 + 0) week = M 929 (1782 + week) := hq.1
               have q1 : M (32 + 1) week = M 929 (2083 + week) := hq.2.1
               have q2 : M (32 + 2) week = M 929 (2384 + week) := hq.2.2.1
               have q3 : M (32 + 3) week = M 929 (2685 + week) := hq.2.2.2.1
               have q4 : M (32 + 4) week = M 929 (2986 + week) := hq.2.2.2.2.1
               rcases (by omega : what = 0 ∨ what = 1 ∨ what = 2 ∨ what = 3 ∨ what = 4) with e | e | e | e | e <;> subst e <;> exact ⟨by omega, hI⟩))

