/-! TICKETS, RACKS: both sides -/
theorem c_lastFigures {v : Int} {M : jM} {Q : Int → jM → Prop} (hv : 0 ≤ v ∧ v ≤ 60000000) (h : Q ((31 * v + 17) % 97) M) : jCt yX8_lastFigures cX8_lastFigures 1 (some .int) 1 [jI v] M Q := by
  refine jCt_of mt_yX8_lastFigures (Nat.le_of_ble_eq_true rfl) (fun X => ?_)
  refine e_bipush 2 dX8_lastFigures_0 (by decide) rfl ?_
  refine e_iload_n (i := 0) 3 dX8_lastFigures_2 rfl rfl rfl ?_
  refine e_imul 4 dX8_lastFigures_3 rfl ?_
  refine e_bipush 6 dX8_lastFigures_4 (by decide) rfl ?_
  refine e_iadd 7 dX8_lastFigures_6 rfl ?_
  refine e_bipush 9 dX8_lastFigures_7 (by decide) rfl ?_
  refine e_irem 10 dX8_lastFigures_9 (by omega) (by decide) (by decide) rfl ?_
  refine e_iret dX8_lastFigures_10 ?_
  rw [Int.tmod_eq_emod_of_nonneg (by omega)] 
  exact h

theorem c_standing {k : Int} {M : jM} {Q : Int → jM → Prop} (hk : -2147483648 ≤ k ∧ k ≤ 2147483647) (hC : CR M) (h2 : tkBad k → Q 2 M) (h3 : ¬ tkBad k ∧ M 929 1310 < k / 100 → Q 3 M) (h1 : tkGood (M 929 1310) k ∧ M 929 (1611 + (k / 100 - 1)) = 0 → Q 1 M) (h0 : tkGood (M 929 1310) k ∧ M 929 (1611 + (k / 100 - 1)) = 1 → Q 0 M) : jCt yX8_standing cX8_standing 2 (some .int) 2 [jR 1, jI k] M Q := by
  refine jCt_of mt_yX8_standing (Nat.le_of_ble_eq_true rfl) (fun X => ?_)
  have hn := hC.cnt
  have hg := hC.rng
  have hd1 : -21474837 ≤ k.tdiv 100 ∧ k.tdiv 100 ≤ 21474837 := tdiv_100 hk
  refine e_iload_n (i := 1) 1 dX8_standing_0 rfl rfl rfl ?_
  refine e_bipush 3 dX8_standing_1 (by decide) rfl ?_
  refine e_icmp_lt 6 20 dX8_standing_3 (by omega) (by decide) (by decide) rfl (fun b3 => ?_) (fun b3 => ?_)
  · skip
    refine e_iconst 21 dX8_standing_20 rfl ?_
    refine e_iret dX8_standing_21 ?_
    exact h2 (Or.inl b3)
  · skip
    have ed : k.tdiv 100 = k / 100 := Int.tdiv_eq_ediv_of_nonneg (by omega)
    have em : k.tmod 100 = k % 100 := Int.tmod_eq_emod_of_nonneg (by omega)
    have e9 : (31 * k.tdiv 100 + 17).tmod 97 = (31 * k.tdiv 100 + 17) % 97 := Int.tmod_eq_emod_of_nonneg (by omega)
    refine e_iload_n (i := 1) 7 dX8_standing_6 rfl rfl rfl ?_
    refine e_bipush 9 dX8_standing_7 (by decide) rfl ?_
    refine e_irem 10 dX8_standing_9 (by omega) (by decide) (by decide) rfl ?_
    refine e_iload_n (i := 1) 11 dX8_standing_10 rfl rfl rfl ?_
    refine e_bipush 13 dX8_standing_11 (by decide) rfl ?_
    refine e_idiv 14 dX8_standing_13 (by omega) (by decide) (by decide) rfl ?_
    refine e_callS 17 mt_yX8_lastFigures ms_yX8_lastFigures wd_797 (by decide) dX8_standing_14 rfl rfl (Nat.le_of_ble_eq_true rfl) (jroom (by decide)) rfl (c_lastFigures (by omega) ?_)
    dsimp only [jpush]
    refine e_icmp_eq 20 22 dX8_standing_17 (by omega) (by omega) (by decide) rfl (fun b17 => ?_) (fun b17 => ?_)
    · skip
      refine e_iload_n (i := 1) 23 dX8_standing_22 rfl rfl rfl ?_
      refine e_bipush 25 dX8_standing_23 (by decide) rfl ?_
      refine e_idiv 26 dX8_standing_25 (by omega) (by decide) (by decide) rfl ?_
      refine e_aload_n (i := 0) 27 dX8_standing_26 rfl rfl rfl ?_
      refine e_geti (j := 12) 30 fl_8_117 dX8_standing_27 at_1 (by decide) rfl rfl (fun r27 => ?_)
      refine e_icmp_le 33 35 dX8_standing_30 (by omega) (by omega) (by decide) rfl (fun b30 => ?_) (fun b30 => ?_)
      · skip
        have ht := hC.tk (t := k / 100 - 1) (by omega) (by omega)
        have e10 : M (144 + (k.tdiv 100 - 1)) 3 = M (144 + (k / 100 - 1)) 3 := by rw [ed]
        refine e_aload_n (i := 0) 36 dX8_standing_35 rfl rfl rfl ?_
        refine e_getr (j := 11) 39 fl_8_48 dX8_standing_36 at_1 rfl rfl tp_1_11 rfl ?_
        refine e_iload_n (i := 1) 40 dX8_standing_39 rfl rfl rfl ?_
        refine e_bipush 42 dX8_standing_40 (by decide) rfl ?_
        refine e_idiv 43 dX8_standing_42 (by omega) (by decide) (by decide) rfl ?_
        refine e_iconst 44 dX8_standing_43 rfl ?_
        refine e_isub 45 dX8_standing_44 rfl ?_
        refine e_aald 46 dX8_standing_45 ar_19 (by decide) (by omega) (by omega) (tp_ticket (by omega) (by omega)) rfl ?_
        refine e_geti (j := 3) 49 fl_8_188 dX8_standing_46 (at_ticket (by omega) (by omega)) (by decide) rfl rfl (fun r46 => ?_)
        refine e_if_eq 52 56 dX8_standing_49 (by omega) (by decide) rfl (fun b49 => ?_) (fun b49 => ?_)
        · skip
          refine e_iconst 57 dX8_standing_56 rfl ?_
          refine e_iret dX8_standing_57 ?_
          exact h1 ⟨⟨b3, by omega, by omega⟩, by omega⟩
        · skip
          refine e_iconst 53 dX8_standing_52 rfl ?_
          refine e_goto 57 dX8_standing_53 (by decide) ?_
          refine e_iret dX8_standing_57 ?_
          exact h0 ⟨⟨b3, by omega, by omega⟩, by omega⟩
      · skip
        refine e_iconst 34 dX8_standing_33 rfl ?_
        refine e_iret dX8_standing_34 ?_
        exact h3 ⟨fun q => by unfold tkBad at q; omega, by omega⟩
    · skip
      refine e_iconst 21 dX8_standing_20 rfl ?_
      refine e_iret dX8_standing_21 ?_
      exact h2 (Or.inr (by omega))

theorem c_living {k : Int} {M : jM} {Q : Int → jM → Prop} (hk : -2147483648 ≤ k ∧ k ≤ 2147483647) (hC : CR M) (h1 : (tkGood (M 929 1310) k ∧ M 929 (1611 + (k / 100 - 1)) = 1) ∧ 0 ≤ k / 100 - 1 ∧ k / 100 - 1 < M 929 1310 → Q (k / 100 - 1) M) (h0 : tkBad k ∨ (¬ tkBad k ∧ M 929 1310 < k / 100) ∨ tkGood (M 929 1310) k ∧ M 929 (1611 + (k / 100 - 1)) = 0 → Q (-1) M) : jCt yX8_living cX8_living 2 (some .int) 3 [jR 1, jI k] M Q := by
  refine jCt_of mt_yX8_living (Nat.le_of_ble_eq_true rfl) (fun X => ?_)
  refine e_aload_n (i := 0) 1 dX8_living_0 rfl rfl rfl ?_
  refine e_iload_n (i := 1) 2 dX8_living_1 rfl rfl rfl ?_
  refine e_callV 5 mt_yX8_standing mv_yX8_standing wd_816 (by decide) dX8_living_2 at_1 jc_8 rfl rfl rfl (Nat.le_of_ble_eq_true rfl) (jroom (by decide)) rfl (c_standing (by omega) hC (fun w2 => ?_) (fun w2 => ?_) (fun w2 => ?_) (fun w2 => ?_))
  · dsimp only [jpush]
    refine e_if_ne 8 17 dX8_living_5 (by decide) (by decide) rfl (fun _ => ?_) (fun h => absurd h (by decide))
    refine e_iconst 18 dX8_living_17 rfl ?_
    refine e_iret dX8_living_18 ?_
    exact h0 (Or.inl w2)
  · dsimp only [jpush]
    refine e_if_ne 8 17 dX8_living_5 (by decide) (by decide) rfl (fun _ => ?_) (fun h => absurd h (by decide))
    refine e_iconst 18 dX8_living_17 rfl ?_
    refine e_iret dX8_living_18 ?_
    exact h0 (Or.inr (Or.inl w2))
  · dsimp only [jpush]
    refine e_if_ne 8 17 dX8_living_5 (by decide) (by decide) rfl (fun _ => ?_) (fun h => absurd h (by decide))
    refine e_iconst 18 dX8_living_17 rfl ?_
    refine e_iret dX8_living_18 ?_
    exact h0 (Or.inr (Or.inr w2))
  · dsimp only [jpush]
    refine e_if_ne 8 17 dX8_living_5 (by decide) (by decide) rfl (fun h => absurd h (by decide)) (fun _ => ?_)
    refine e_iload_n (i := 1) 9 dX8_living_8 rfl rfl rfl ?_
    refine e_bipush 11 dX8_living_9 (by decide) rfl ?_
    refine e_idiv 12 dX8_living_11 (by omega) (by decide) (by decide) rfl ?_
    refine e_iconst 13 dX8_living_12 rfl ?_
    refine e_isub 14 dX8_living_13 rfl ?_
    refine e_goto 18 dX8_living_14 (by decide) ?_
    refine e_iret dX8_living_18 ?_
    have hg := w2.1
    unfold tkGood at hg
    rw [Int.tdiv_eq_ediv_of_nonneg (by omega)]
    exact h1 ⟨w2, by omega, by omega⟩

theorem c_serial {k : Int} {M : jM} {Q : Int → jM → Prop} (hk : -2147483648 ≤ k ∧ k ≤ 2147483647) (hC : CR M) (h1 : tkGood (M 929 1310) k ∧ 0 ≤ k / 100 - 1 ∧ k / 100 - 1 < M 929 1310 → Q (k / 100 - 1) M) (h0 : tkBad k ∨ (¬ tkBad k ∧ M 929 1310 < k / 100) → Q (-1) M) : jCt yX8_serial cX8_serial 3 (some .int) 3 [jR 1, jI k] M Q := by
  refine jCt_of mt_yX8_serial (Nat.le_of_ble_eq_true rfl) (fun X => ?_)
  refine e_aload_n (i := 0) 1 dX8_serial_0 rfl rfl rfl ?_
  refine e_iload_n (i := 1) 2 dX8_serial_1 rfl rfl rfl ?_
  refine e_callV 5 mt_yX8_standing mv_yX8_standing wd_816 (by decide) dX8_serial_2 at_1 jc_8 rfl rfl rfl (Nat.le_of_ble_eq_true rfl) (jroom (by decide)) rfl (c_standing (by omega) hC (fun w2 => ?_) (fun w2 => ?_) (fun w2 => ?_) (fun w2 => ?_))
  · dsimp only [jpush]
    refine e_istore_n (i := 2) (lsn := [(2, _), (0, _), (1, _)]) 6 dX8_serial_5 rfl (by decide) rfl rfl ?_
    refine e_iload_n (i := 2) 7 dX8_serial_6 rfl rfl rfl ?_
    refine e_if_eq 10 15 dX8_serial_7 (by decide) (by decide) rfl (fun h => absurd h (by decide)) (fun _ => ?_)
    refine e_iload_n (i := 2) 11 dX8_serial_10 rfl rfl rfl ?_
    refine e_iconst 12 dX8_serial_11 rfl ?_
    refine e_icmp_ne 15 24 dX8_serial_12 (by decide) (by decide) (by decide) rfl (fun _ => ?_) (fun h => absurd h (by decide))
    refine e_iconst 25 dX8_serial_24 rfl ?_
    refine e_iret dX8_serial_25 ?_
    exact h0 (Or.inl w2)
  · dsimp only [jpush]
    refine e_istore_n (i := 2) (lsn := [(2, _), (0, _), (1, _)]) 6 dX8_serial_5 rfl (by decide) rfl rfl ?_
    refine e_iload_n (i := 2) 7 dX8_serial_6 rfl rfl rfl ?_
    refine e_if_eq 10 15 dX8_serial_7 (by decide) (by decide) rfl (fun h => absurd h (by decide)) (fun _ => ?_)
    refine e_iload_n (i := 2) 11 dX8_serial_10 rfl rfl rfl ?_
    refine e_iconst 12 dX8_serial_11 rfl ?_
    refine e_icmp_ne 15 24 dX8_serial_12 (by decide) (by decide) (by decide) rfl (fun _ => ?_) (fun h => absurd h (by decide))
    refine e_iconst 25 dX8_serial_24 rfl ?_
    refine e_iret dX8_serial_25 ?_
    exact h0 (Or.inr w2)
  · dsimp only [jpush]
    refine e_istore_n (i := 2) (lsn := [(2, _), (0, _), (1, _)]) 6 dX8_serial_5 rfl (by decide) rfl rfl ?_
    refine e_iload_n (i := 2) 7 dX8_serial_6 rfl rfl rfl ?_
    refine e_if_eq 10 15 dX8_serial_7 (by decide) (by decide) rfl (fun h => absurd h (by decide)) (fun _ => ?_)
    refine e_iload_n (i := 2) 11 dX8_serial_10 rfl rfl rfl ?_
    refine e_iconst 12 dX8_serial_11 rfl ?_
    refine e_icmp_ne 15 24 dX8_serial_12 (by decide) (by decide) (by decide) rfl (fun h => absurd h (by decide)) (fun _ => ?_)
    refine e_iload_n (i := 1) 16 dX8_serial_15 rfl rfl rfl ?_
    refine e_bipush 18 dX8_serial_16 (by decide) rfl ?_
    refine e_idiv 19 dX8_serial_18 (by omega) (by decide) (by decide) rfl ?_
    refine e_iconst 20 dX8_serial_19 rfl ?_
    refine e_isub 21 dX8_serial_20 rfl ?_
    refine e_goto 25 dX8_serial_21 (by decide) ?_
    refine e_iret dX8_serial_25 ?_
    have hg := w2.1
    unfold tkGood at hg
    rw [Int.tdiv_eq_ediv_of_nonneg (by omega)]
    exact h1 ⟨w2.1, by omega, by omega⟩
  · dsimp only [jpush]
    refine e_istore_n (i := 2) (lsn := [(2, _), (0, _), (1, _)]) 6 dX8_serial_5 rfl (by decide) rfl rfl ?_
    refine e_iload_n (i := 2) 7 dX8_serial_6 rfl rfl rfl ?_
    refine e_if_eq 10 15 dX8_serial_7 (by decide) (by decide) rfl (fun _ => ?_) (fun h => absurd h (by decide))
    refine e_iload_n (i := 1) 16 dX8_serial_15 rfl rfl rfl ?_
    refine e_bipush 18 dX8_serial_16 (by decide) rfl ?_
    refine e_idiv 19 dX8_serial_18 (by omega) (by decide) (by decide) rfl ?_
    refine e_iconst 20 dX8_serial_19 rfl ?_
    refine e_isub 21 dX8_serial_20 rfl ?_
    refine e_goto 25 dX8_serial_21 (by decide) ?_
    refine e_iret dX8_serial_25 ?_
    have hg := w2.1
    unfold tkGood at hg
    rw [Int.tdiv_eq_ediv_of_nonneg (by omega)]
    exact h1 ⟨w2.1, by omega, by omega⟩

/-- a ticket more, in the class's cells -/
def cGive (M : jM) (p hh : Int) : jM := jset (jset (jset (jset (jset M (144 + M 1 12) 0 p) (144 + M 1 12) 1 hh) (144 + M 1 12) 2 (M 1 17)) (144 + M 1 12) 3 1) 1 12 (M 1 12 + 1)
/-- .. in the row -/
def rGive (M : jM) (p hh : Int) : jM := jset (jset (jset (jset (jset M 929 (1311 + M 929 1310) p) 929 (1461 + M 929 1310) hh) 929 (1611 + M 929 1310) 1) 929 (3609 + M 929 1310) (M 929 3608)) 929 1310 (M 929 1310 + 1)
def cEnter (M : jM) (b v : Int) : jM := jset M (32 + b) (M 1 4) (w32 (M (32 + b) (M 1 4) + v))
def cKill (M : jM) (p : Int) (n : Int) : jM := fun k j => if (144 ≤ k ∧ k < 144 + n) ∧ j = 3 ∧ M k 0 = p then 0 else M k j
def rKill (M : jM) (p : Int) (n : Int) : jM := fun k j => if k = 929 ∧ (1611 ≤ j ∧ j < 1611 + n) ∧ M 929 (j - 300) = p then 0 else M k j
theorem cKill_0 {M : jM} {p : Int} : cKill M p 0 = M := by
  funext k j
  exact if_neg (by omega)
theorem rKill_0 {M : jM} {p : Int} : rKill M p 0 = M := by
  funext k j
  exact if_neg (by omega)
theorem cKill_o {M : jM} {p n k j : Int} (h : (k < 144 ∨ 144 + n ≤ k) ∨ j ≠ 3) : cKill M p n k j = M k j := if_neg (by omega)
theorem rKill_o {M : jM} {p n k j : Int} (h : k ≠ 929 ∨ j < 1611 ∨ 1611 + n ≤ j) : rKill M p n k j = M k j := if_neg (by omega)
theorem cKill_yes {M : jM} {p n : Int} (h0 : 0 ≤ n) (h : M (144 + n) 0 = p) : jset (cKill M p n) (144 + n) 3 0 = cKill M p (n + 1) := by
  funext k j
  unfold jset cKill
  by_cases e : k = 144 + n ∧ j = 3
  · rw [if_pos e, if_pos ⟨by omega, e.2, by rw [e.1]; exact h⟩]
  · rw [if_neg e]
    by_cases e2 : (144 ≤ k ∧ k < 144 + n) ∧ j = 3 ∧ M k 0 = p
    · rw [if_pos e2, if_pos ⟨by omega, e2.2⟩]
    · rw [if_neg e2, if_neg (fun q => e2 ⟨⟨q.1.1, by have := q.2.1; omega⟩, q.2⟩)]
theorem cKill_no {M : jM} {p n : Int} (h : M (144 + n) 0 ≠ p) : cKill M p n = cKill M p (n + 1) := by
  funext k j
  unfold cKill
  by_cases e2 : (144 ≤ k ∧ k < 144 + n) ∧ j = 3 ∧ M k 0 = p
  · rw [if_pos e2, if_pos ⟨by omega, e2.2⟩]
  · rw [if_neg e2, if_neg (fun q => e2 ⟨⟨q.1.1, by
      have a : k ≠ 144 + n := fun z => h (by rw [← z]; exact q.2.2)
      omega⟩, q.2⟩)]
theorem rKill_yes {M : jM} {p n : Int} (h0 : 0 ≤ n) (h : M 929 (1311 + n) = p) : jset (rKill M p n) 929 (1611 + n) 0 = rKill M p (n + 1) := by
  funext k j
  unfold jset rKill
  by_cases e : k = 929 ∧ j = 1611 + n
  · rw [if_pos e, if_pos ⟨e.1, by omega, by rw [e.2, show 1611 + n - 300 = 1311 + n by omega]; exact h⟩]
  · rw [if_neg e]
    by_cases e2 : k = 929 ∧ (1611 ≤ j ∧ j < 1611 + n) ∧ M 929 (j - 300) = p
    · rw [if_pos e2, if_pos ⟨e2.1, by omega, e2.2.2⟩]
    · rw [if_neg e2, if_neg (fun q => e2 ⟨q.1, by omega, q.2.2⟩)]
theorem rKill_no {M : jM} {p n : Int} (h : M 929 (1311 + n) ≠ p) : rKill M p n = rKill M p (n + 1) := by
  funext k j
  unfold rKill
  by_cases e2 : k = 929 ∧ (1611 ≤ j ∧ j < 1611 + n) ∧ M 929 (j - 300) = p
  · rw [if_pos e2, if_pos ⟨e2.1, by omega, e2.2.2⟩]
  · rw [if_neg e2, if_neg (fun q => e2 ⟨q.1, by
      have a : j ≠ 1611 + n := fun z => h (by rw [← q.2.2, z, show 1611 + n - 300 = 1311 + n by omega])
      omega, q.2.2⟩)]
theorem c_issue {p hh : Int} {M : jM} {Q : Int → jM → Prop} (hp : -2147483648 ≤ p ∧ p ≤ 2147483647) (hh0 : -2147483648 ≤ hh ∧ hh ≤ 2147483647) (ht : 0 ≤ M 1 12 ∧ M 1 12 < 150) (h : Q (tkNum (M 1 12 + 1)) (cGive M p hh)) : jCt yX8_issue cX8_issue 4 (some .int) 2 [jR 1, jI p, jI hh] M Q := by
  refine jCt_of mt_yX8_issue (Nat.le_of_ble_eq_true rfl) (fun X => ?_)
  refine e_aload_n (i := 0) 1 dX8_issue_0 rfl rfl rfl ?_
  refine e_geti (j := 12) 4 fl_8_117 dX8_issue_1 at_1 (by decide) rfl rfl (fun r1 => ?_)
  refine e_sipush 7 dX8_issue_4 (by decide) rfl ?_
  refine e_icmp_lt 10 13 dX8_issue_7 (by omega) (by decide) (by decide) rfl (fun b7 => ?_) (fun b7 => ?_)
  · skip
    refine e_aload_n (i := 0) 14 dX8_issue_13 rfl rfl rfl ?_
    refine e_getr (j := 11) 17 fl_8_48 dX8_issue_14 at_1 rfl rfl tp_1_11 rfl ?_
    refine e_aload_n (i := 0) 18 dX8_issue_17 rfl rfl rfl ?_
    refine e_geti (j := 12) 21 fl_8_117 dX8_issue_18 at_1 (by decide) rfl rfl (fun r18 => ?_)
    refine e_aald 22 dX8_issue_21 ar_19 (by decide) (by omega) (by omega) (tp_ticket (by omega) (by omega)) rfl ?_
    refine e_astore_n (i := 3) (lsn := [(3, _), (0, _), (1, _), (2, _)]) 23 dX8_issue_22 rfl (by decide) rfl rfl ?_
    refine e_aload_n (i := 3) 24 dX8_issue_23 rfl rfl rfl ?_
    refine e_iload_n (i := 1) 25 dX8_issue_24 rfl rfl rfl ?_
    refine e_puti (j := 0) 28 fl_8_179 dX8_issue_25 (at_ticket (by omega) (by omega)) rfl rfl rfl (by omega) rfl ?_
    refine e_aload_n (i := 3) 29 dX8_issue_28 rfl rfl rfl ?_
    refine e_iload_n (i := 2) 30 dX8_issue_29 rfl rfl rfl ?_
    refine e_puti (j := 1) 33 fl_8_182 dX8_issue_30 (at_ticket (by omega) (by omega)) rfl rfl rfl (by omega) rfl ?_
    refine e_aload_n (i := 3) 34 dX8_issue_33 rfl rfl rfl ?_
    refine e_aload_n (i := 0) 35 dX8_issue_34 rfl rfl rfl ?_
    refine e_geti (j := 17) 38 fl_8_96 dX8_issue_35 at_1 (by decide) rfl rfl (fun r35 => ?_)
    simp (disch := omega) only [jset_k, jset_j, jset_same, true_and, and_true] at r35 ⊢
    refine e_puti (j := 2) 41 fl_8_185 dX8_issue_38 (at_ticket (by omega) (by omega)) rfl rfl rfl (by omega) rfl ?_
    refine e_aload_n (i := 3) 42 dX8_issue_41 rfl rfl rfl ?_
    refine e_iconst 43 dX8_issue_42 rfl ?_
    refine e_putz (j := 3) 46 fl_8_188 dX8_issue_43 (at_ticket (by omega) (by omega)) rfl rfl rfl (by decide) rfl ?_
    refine e_aload_n (i := 0) 47 dX8_issue_46 rfl rfl rfl ?_
    refine e_dup 48 dX8_issue_47 rfl rfl ?_
    refine e_geti (j := 12) 51 fl_8_117 dX8_issue_48 at_1 (by decide) rfl rfl (fun r48 => ?_)
    simp (disch := omega) only [jset_k, jset_j, jset_same, true_and, and_true] at r48 ⊢
    refine e_iconst 52 dX8_issue_51 rfl ?_
    refine e_iadd 53 dX8_issue_52 rfl ?_
    refine e_puti (j := 12) 56 fl_8_117 dX8_issue_53 at_1 rfl rfl rfl (by omega) rfl ?_
    refine e_bipush 58 dX8_issue_56 (by decide) rfl ?_
    refine e_aload_n (i := 0) 59 dX8_issue_58 rfl rfl rfl ?_
    refine e_geti (j := 12) 62 fl_8_117 dX8_issue_59 at_1 (by decide) rfl rfl (fun r59 => ?_)
    simp (disch := omega) only [jset_k, jset_j, jset_same, true_and, and_true] at r59 ⊢
    refine e_imul 63 dX8_issue_62 rfl ?_
    refine e_aload_n (i := 0) 64 dX8_issue_63 rfl rfl rfl ?_
    refine e_geti (j := 12) 67 fl_8_117 dX8_issue_64 at_1 (by decide) rfl rfl (fun r64 => ?_)
    simp (disch := omega) only [jset_k, jset_j, jset_same, true_and, and_true] at r64 ⊢
    refine e_callS 70 mt_yX8_lastFigures ms_yX8_lastFigures wd_797 (by decide) dX8_issue_67 rfl rfl (Nat.le_of_ble_eq_true rfl) (jroom (by decide)) rfl (c_lastFigures (by omega) ?_)
    dsimp only [jpush]
    refine e_iadd 71 dX8_issue_70 rfl ?_
    refine e_iret dX8_issue_71 ?_
    exact h
  · omega

theorem m_gives {p hh : Int} {M : jM} {Q : Int → jM → Prop} (hp : -2147483648 ≤ p ∧ p ≤ 2147483647) (hh0 : -2147483648 ≤ hh ∧ hh ≤ 2147483647) (ht : 0 ≤ M 929 1310 ∧ M 929 1310 < 150) (h : Q (tkNum (M 929 1310 + 1)) (rGive M p hh)) : jCt yX12_gives cX12_gives 4 (some .int) 2 [jR 928, jI p, jI hh] M Q := by
  refine jCt_of mt_yX12_gives (Nat.le_of_ble_eq_true rfl) (fun X => ?_)
  refine e_aload_n (i := 0) 1 dX12_gives_0 rfl rfl rfl ?_
  refine e_getr (j := 1) 4 fl_12_13 dX12_gives_1 at_928 rfl rfl tp_928_1 rfl ?_
  refine e_sipush 7 dX12_gives_4 (by decide) rfl ?_
  refine e_iald 8 dX12_gives_7 ar_929 (by decide) (by decide) rfl (fun r7 => ?_)
  refine e_istore_n (i := 3) (lsn := [(3, _), (0, _), (1, _), (2, _)]) 9 dX12_gives_8 rfl (by decide) rfl rfl ?_
  refine e_aload_n (i := 0) 10 dX12_gives_9 rfl rfl rfl ?_
  refine e_getr (j := 1) 13 fl_12_13 dX12_gives_10 at_928 rfl rfl tp_928_1 rfl ?_
  refine e_sipush 16 dX12_gives_13 (by decide) rfl ?_
  refine e_iload_n (i := 3) 17 dX12_gives_16 rfl rfl rfl ?_
  refine e_iadd 18 dX12_gives_17 rfl ?_
  refine e_iload_n (i := 1) 19 dX12_gives_18 rfl rfl rfl ?_
  refine e_iast 20 dX12_gives_19 ar_929 (by omega) (by omega) (by omega) rfl ?_
  refine e_aload_n (i := 0) 21 dX12_gives_20 rfl rfl rfl ?_
  refine e_getr (j := 1) 24 fl_12_13 dX12_gives_21 at_928 rfl rfl tp_928_1 rfl ?_
  refine e_sipush 27 dX12_gives_24 (by decide) rfl ?_
  refine e_iload_n (i := 3) 28 dX12_gives_27 rfl rfl rfl ?_
  refine e_iadd 29 dX12_gives_28 rfl ?_
  refine e_iload_n (i := 2) 30 dX12_gives_29 rfl rfl rfl ?_
  refine e_iast 31 dX12_gives_30 ar_929 (by omega) (by omega) (by omega) rfl ?_
  refine e_aload_n (i := 0) 32 dX12_gives_31 rfl rfl rfl ?_
  refine e_getr (j := 1) 35 fl_12_13 dX12_gives_32 at_928 rfl rfl tp_928_1 rfl ?_
  refine e_sipush 38 dX12_gives_35 (by decide) rfl ?_
  refine e_iload_n (i := 3) 39 dX12_gives_38 rfl rfl rfl ?_
  refine e_iadd 40 dX12_gives_39 rfl ?_
  refine e_iconst 41 dX12_gives_40 rfl ?_
  refine e_iast 42 dX12_gives_41 ar_929 (by omega) (by omega) (by decide) rfl ?_
  refine e_aload_n (i := 0) 43 dX12_gives_42 rfl rfl rfl ?_
  refine e_getr (j := 1) 46 fl_12_13 dX12_gives_43 at_928 rfl rfl tp_928_1 rfl ?_
  refine e_sipush 49 dX12_gives_46 (by decide) rfl ?_
  refine e_iload_n (i := 3) 50 dX12_gives_49 rfl rfl rfl ?_
  refine e_iadd 51 dX12_gives_50 rfl ?_
  refine e_aload_n (i := 0) 52 dX12_gives_51 rfl rfl rfl ?_
  refine e_getr (j := 1) 55 fl_12_13 dX12_gives_52 at_928 rfl rfl tp_928_1 rfl ?_
  refine e_sipush 58 dX12_gives_55 (by decide) rfl ?_
  refine e_iald 59 dX12_gives_58 ar_929 (by decide) (by decide) rfl (fun r58 => ?_)
  simp (disch := omega) only [jset_k, jset_j, jset_same, true_and, and_true] at r58 ⊢
  refine e_iast 60 dX12_gives_59 ar_929 (by omega) (by omega) (by omega) rfl ?_
  refine e_aload_n (i := 0) 61 dX12_gives_60 rfl rfl rfl ?_
  refine e_getr (j := 1) 64 fl_12_13 dX12_gives_61 at_928 rfl rfl tp_928_1 rfl ?_
  refine e_sipush 67 dX12_gives_64 (by decide) rfl ?_
  refine e_dup2 68 dX12_gives_67 rfl rfl rfl ?_
  refine e_iald 69 dX12_gives_68 ar_929 (by decide) (by decide) rfl (fun r68 => ?_)
  simp (disch := omega) only [jset_k, jset_j, jset_same, true_and, and_true] at r68 ⊢
  refine e_iconst 70 dX12_gives_69 rfl ?_
  refine e_iadd 71 dX12_gives_70 rfl ?_
  refine e_iast 72 dX12_gives_71 ar_929 (by decide) (by decide) (by omega) rfl ?_
  refine e_iload_n (i := 3) 73 dX12_gives_72 rfl rfl rfl ?_
  refine e_iconst 74 dX12_gives_73 rfl ?_
  refine e_iadd 75 dX12_gives_74 rfl ?_
  refine e_callS 78 mt_yX12_numberOf ms_yX12_numberOf wd_1528 (by decide) dX12_gives_75 rfl rfl (Nat.le_of_ble_eq_true rfl) (jroom (by decide)) rfl (m_numberOf (by omega) ?_)
  dsimp only [jpush]
  refine e_iret dX12_gives_78 ?_
  exact h

theorem c_enter {b v : Int} {M : jM} {Q : Int → jM → Prop} (hb : 0 ≤ b ∧ b < 6) (hw : 0 ≤ M 1 4 ∧ M 1 4 ≤ 300) (h : Q 0 (cEnter M b v)) : jCt yX8_enter cX8_enter 3 none 1 [jR 1, jI b, jI v] M Q := by
  refine jCt_of mt_yX8_enter (Nat.le_of_ble_eq_true rfl) (fun X => ?_)
  refine e_aload_n (i := 0) 1 dX8_enter_0 rfl rfl rfl ?_
  refine e_getr (j := 15) 4 fl_8_57 dX8_enter_1 at_1 rfl rfl tp_1_15 rfl ?_
  refine e_iload_n (i := 1) 5 dX8_enter_4 rfl rfl rfl ?_
  refine e_aaldi 6 dX8_enter_5 ar_31 (by omega) (by omega) (tp_bookrow (by omega) (by omega)) rfl ?_
  refine e_aload_n (i := 0) 7 dX8_enter_6 rfl rfl rfl ?_
  refine e_geti (j := 4) 10 fl_8_81 dX8_enter_7 at_1 (by decide) rfl rfl (fun r7 => ?_)
  refine e_dup2 11 dX8_enter_10 rfl rfl rfl ?_
  refine e_iald 12 dX8_enter_11 (ar_bookrow (by omega) (by omega)) (by omega) (by omega) rfl (fun r11 => ?_)
  refine e_iload_n (i := 2) 13 dX8_enter_12 rfl rfl rfl ?_
  refine e_iadd 14 dX8_enter_13 rfl ?_
  refine e_iastw 15 dX8_enter_14 (ar_bookrow (by omega) (by omega)) (by omega) (by omega) rfl ?_
  refine e_vret dX8_enter_15 ?_
  exact h

theorem l_killTickets {X : jX} {p : Int} {M : jM} {Q : Int → jM → Prop} (hp : -2147483648 ≤ p ∧ p ≤ 2147483647) (ht : 0 ≤ M 1 12 ∧ M 1 12 ≤ 150) (h : Q 0 (cKill M p (M 1 12))) : ∀ (n i : Nat), (i : Int) + n = M 1 12 → ∀ (ii : Int), ii = i → jE X yX8_killTickets cX8_killTickets 3 none 1 Q (cKill M p i) 2 [(0, jR 1), (1, jI p), (2, jI ii)] [] := by
  intro n
  induction n with
  | zero =>
    intro i hi ii hii
    have e1 : cKill M p i 1 12 = M 1 12 := cKill_o (by omega)
    have e2 : cKill M p i (144 + ii) 0 = M (144 + ii) 0 := cKill_o (by omega)
    have e : M 1 12 = (i : Int) := by omega
    rw [e] at h
    refine e_iload_n (i := 2) 3 dX8_killTickets_2 rfl rfl rfl ?_
    refine e_aload_n (i := 0) 4 dX8_killTickets_3 rfl rfl rfl ?_
    refine e_geti (j := 12) 7 fl_8_117 dX8_killTickets_4 at_1 (by decide) rfl rfl (fun r4 => ?_)
    refine e_icmp_ge 10 39 dX8_killTickets_7 (by omega) (by omega) (by decide) rfl (fun b7 => ?_) (fun b7 => ?_)
    · skip
      refine e_vret dX8_killTickets_39 ?_
      exact h
    · omega
  | succ n ih =>
    intro i hi ii hii
    have e1 : cKill M p i 1 12 = M 1 12 := cKill_o (by omega)
    have e2 : cKill M p i (144 + ii) 0 = M (144 + ii) 0 := cKill_o (by omega)
    refine e_iload_n (i := 2) 3 dX8_killTickets_2 rfl rfl rfl ?_
    refine e_aload_n (i := 0) 4 dX8_killTickets_3 rfl rfl rfl ?_
    refine e_geti (j := 12) 7 fl_8_117 dX8_killTickets_4 at_1 (by decide) rfl rfl (fun r4 => ?_)
    refine e_icmp_ge 10 39 dX8_killTickets_7 (by omega) (by omega) (by decide) rfl (fun b7 => ?_) (fun b7 => ?_)
    · omega
    · skip
      refine e_aload_n (i := 0) 11 dX8_killTickets_10 rfl rfl rfl ?_
      refine e_getr (j := 11) 14 fl_8_48 dX8_killTickets_11 at_1 rfl rfl tp_1_11 rfl ?_
      refine e_iload_n (i := 2) 15 dX8_killTickets_14 rfl rfl rfl ?_
      refine e_aald 16 dX8_killTickets_15 ar_19 (by decide) (by omega) (by omega) (tp_ticket (by omega) (by omega)) rfl ?_
      refine e_geti (j := 0) 19 fl_8_179 dX8_killTickets_16 (at_ticket (by omega) (by omega)) (by decide) rfl rfl (fun r16 => ?_)
      refine e_iload_n (i := 1) 20 dX8_killTickets_19 rfl rfl rfl ?_
      refine e_icmp_ne 23 33 dX8_killTickets_20 (by omega) (by omega) (by decide) rfl (fun b20 => ?_) (fun b20 => ?_)
      · skip
        refine e_iinc (lsn := [(2, _), (0, _), (1, _)]) 36 dX8_killTickets_33 rfl (by decide) rfl rfl ?_
        refine e_goto 2 dX8_killTickets_36 (by decide) ?_
        refine e_ls (ls2 := [(0, _), (1, _), (2, _)]) rfl ?_
        have e3 := ih (i + 1) (by omega) (ii + 1) (by omega)
        rw [show ((i + 1 : Nat) : Int) = (i : Int) + 1 by omega, ← cKill_no (by rw [← hii, ← e2]; exact b20)] at e3
        exact e3
      · skip
        refine e_aload_n (i := 0) 24 dX8_killTickets_23 rfl rfl rfl ?_
        refine e_getr (j := 11) 27 fl_8_48 dX8_killTickets_24 at_1 rfl rfl tp_1_11 rfl ?_
        refine e_iload_n (i := 2) 28 dX8_killTickets_27 rfl rfl rfl ?_
        refine e_aald 29 dX8_killTickets_28 ar_19 (by decide) (by omega) (by omega) (tp_ticket (by omega) (by omega)) rfl ?_
        refine e_iconst 30 dX8_killTickets_29 rfl ?_
        refine e_putz (j := 3) 33 fl_8_188 dX8_killTickets_30 (at_ticket (by omega) (by omega)) rfl rfl rfl (by decide) rfl ?_
        refine e_iinc (lsn := [(2, _), (0, _), (1, _)]) 36 dX8_killTickets_33 rfl (by decide) rfl rfl ?_
        refine e_goto 2 dX8_killTickets_36 (by decide) ?_
        refine e_ls (ls2 := [(0, _), (1, _), (2, _)]) rfl ?_
        have e3 := ih (i + 1) (by omega) (ii + 1) (by omega)
        rw [show ((i + 1 : Nat) : Int) = (i : Int) + 1 by omega, ← cKill_yes (by omega) (by rw [← hii, ← e2]; exact b20), ← hii] at e3
        rw [← hii]
        exact e3

theorem c_killTickets {p : Int} {M : jM} {Q : Int → jM → Prop} (hp : -2147483648 ≤ p ∧ p ≤ 2147483647) (ht : 0 ≤ M 1 12 ∧ M 1 12 ≤ 150) (h : Q 0 (cKill M p (M 1 12))) : jCt yX8_killTickets cX8_killTickets 3 none 1 [jR 1, jI p] M Q := by
  refine jCt_of mt_yX8_killTickets (Nat.le_of_ble_eq_true rfl) (fun X => ?_)
  refine e_iconst 1 dX8_killTickets_0 rfl ?_
  refine e_istore_n (i := 2) (lsn := [(2, _), (0, _), (1, _)]) 2 dX8_killTickets_1 rfl (by decide) rfl rfl ?_
  refine e_ls (ls2 := [(0, _), (1, _), (2, _)]) rfl ?_
  have e := l_killTickets (X := X) hp ht h (M 1 12).toNat 0 (by omega) 0 rfl
  rw [show ((0 : Nat) : Int) = 0 from rfl, cKill_0] at e
  exact e

theorem l_kills {X : jX} {p : Int} {M : jM} {Q : Int → jM → Prop} (hp : -2147483648 ≤ p ∧ p ≤ 2147483647) (ht : 0 ≤ M 929 1310 ∧ M 929 1310 ≤ 150) (h : Q 0 (rKill M p (M 929 1310))) : ∀ (n i : Nat), (i : Int) + n = M 929 1310 → ∀ (ii : Int), ii = i → jE X yX12_kills cX12_kills 3 none 1 Q (rKill M p i) 2 [(0, jR 928), (1, jI p), (2, jI ii)] [] := by
  intro n
  induction n with
  | zero =>
    intro i hi ii hii
    have e1 : rKill M p i 929 1310 = M 929 1310 := rKill_o (by omega)
    have e2 : rKill M p i 929 (1311 + ii) = M 929 (1311 + ii) := rKill_o (by omega)
    have e : M 929 1310 = (i : Int) := by omega
    rw [e] at h
    refine e_iload_n (i := 2) 3 dX12_kills_2 rfl rfl rfl ?_
    refine e_aload_n (i := 0) 4 dX12_kills_3 rfl rfl rfl ?_
    refine e_getr (j := 1) 7 fl_12_13 dX12_kills_4 at_928 rfl rfl tp_928_1 rfl ?_
    refine e_sipush 10 dX12_kills_7 (by decide) rfl ?_
    refine e_iald 11 dX12_kills_10 ar_929 (by decide) (by decide) rfl (fun r10 => ?_)
    refine e_icmp_ge 14 45 dX12_kills_11 (by omega) (by omega) (by decide) rfl (fun b11 => ?_) (fun b11 => ?_)
    · skip
      refine e_vret dX12_kills_45 ?_
      exact h
    · omega
  | succ n ih =>
    intro i hi ii hii
    have e1 : rKill M p i 929 1310 = M 929 1310 := rKill_o (by omega)
    have e2 : rKill M p i 929 (1311 + ii) = M 929 (1311 + ii) := rKill_o (by omega)
    refine e_iload_n (i := 2) 3 dX12_kills_2 rfl rfl rfl ?_
    refine e_aload_n (i := 0) 4 dX12_kills_3 rfl rfl rfl ?_
    refine e_getr (j := 1) 7 fl_12_13 dX12_kills_4 at_928 rfl rfl tp_928_1 rfl ?_
    refine e_sipush 10 dX12_kills_7 (by decide) rfl ?_
    refine e_iald 11 dX12_kills_10 ar_929 (by decide) (by decide) rfl (fun r10 => ?_)
    refine e_icmp_ge 14 45 dX12_kills_11 (by omega) (by omega) (by decide) rfl (fun b11 => ?_) (fun b11 => ?_)
    · omega
    · skip
      refine e_aload_n (i := 0) 15 dX12_kills_14 rfl rfl rfl ?_
      refine e_getr (j := 1) 18 fl_12_13 dX12_kills_15 at_928 rfl rfl tp_928_1 rfl ?_
      refine e_sipush 21 dX12_kills_18 (by decide) rfl ?_
      refine e_iload_n (i := 2) 22 dX12_kills_21 rfl rfl rfl ?_
      refine e_iadd 23 dX12_kills_22 rfl ?_
      refine e_iald 24 dX12_kills_23 ar_929 (by omega) (by omega) rfl (fun r23 => ?_)
      refine e_iload_n (i := 1) 25 dX12_kills_24 rfl rfl rfl ?_
      refine e_icmp_ne 28 39 dX12_kills_25 (by omega) (by omega) (by decide) rfl (fun b25 => ?_) (fun b25 => ?_)
      · skip
        refine e_iinc (lsn := [(2, _), (0, _), (1, _)]) 42 dX12_kills_39 rfl (by decide) rfl rfl ?_
        refine e_goto 2 dX12_kills_42 (by decide) ?_
        refine e_ls (ls2 := [(0, _), (1, _), (2, _)]) rfl ?_
        have e3 := ih (i + 1) (by omega) (ii + 1) (by omega)
        rw [show ((i + 1 : Nat) : Int) = (i : Int) + 1 by omega, ← rKill_no (by rw [← hii, ← e2]; exact b25)] at e3
        exact e3
      · skip
        refine e_aload_n (i := 0) 29 dX12_kills_28 rfl rfl rfl ?_
        refine e_getr (j := 1) 32 fl_12_13 dX12_kills_29 at_928 rfl rfl tp_928_1 rfl ?_
        refine e_sipush 35 dX12_kills_32 (by decide) rfl ?_
        refine e_iload_n (i := 2) 36 dX12_kills_35 rfl rfl rfl ?_
        refine e_iadd 37 dX12_kills_36 rfl ?_
        refine e_iconst 38 dX12_kills_37 rfl ?_
        refine e_iast 39 dX12_kills_38 ar_929 (by omega) (by omega) (by decide) rfl ?_
        refine e_iinc (lsn := [(2, _), (0, _), (1, _)]) 42 dX12_kills_39 rfl (by decide) rfl rfl ?_
        refine e_goto 2 dX12_kills_42 (by decide) ?_
        refine e_ls (ls2 := [(0, _), (1, _), (2, _)]) rfl ?_
        have e3 := ih (i + 1) (by omega) (ii + 1) (by omega)
        rw [show ((i + 1 : Nat) : Int) = (i : Int) + 1 by omega, ← rKill_yes (by omega) (by rw [← hii, ← e2]; exact b25), ← hii] at e3
        rw [← hii]
        exact e3

theorem m_kills {p : Int} {M : jM} {Q : Int → jM → Prop} (hp : -2147483648 ≤ p ∧ p ≤ 2147483647) (ht : 0 ≤ M 929 1310 ∧ M 929 1310 ≤ 150) (h : Q 0 (rKill M p (M 929 1310))) : jCt yX12_kills cX12_kills 3 none 1 [jR 928, jI p] M Q := by
  refine jCt_of mt_yX12_kills (Nat.le_of_ble_eq_true rfl) (fun X => ?_)
  refine e_iconst 1 dX12_kills_0 rfl ?_
  refine e_istore_n (i := 2) (lsn := [(2, _), (0, _), (1, _)]) 2 dX12_kills_1 rfl (by decide) rfl rfl ?_
  refine e_ls (ls2 := [(0, _), (1, _), (2, _)]) rfl ?_
  have e := l_kills (X := X) hp ht h (M 929 1310).toNat 0 (by omega) 0 rfl
  rw [show ((0 : Nat) : Int) = 0 from rfl, rKill_0] at e
  exact e

