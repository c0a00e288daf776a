/-! PLEDGES LEAVE; ROOM; HOW MANY ARE HERE -/
def cLeave (M : jM) (p st : Int) : jM := cKill (if st = 1 then jset (jset (jset M (84 + p) 6 st) (84 + p) 5 (-1)) (84 + p) 8 (M 1 4) else jset (jset M (84 + p) 6 st) (84 + p) 5 (-1)) p (M 1 12)
def rLeave (M : jM) (p st : Int) : jM := rKill (jset (jset (jset M 929 (1010 + p) st) 929 (1190 + p) (M 929 708)) 929 (950 + p) (-1)) p (M 929 1310)
theorem c_leave {p st : Int} {M : jM} {Q : Int → jM → Prop} (hp : 0 ≤ p ∧ p < 60) (hs : st = 1 ∨ st = 2) (ht : 0 ≤ M 1 12 ∧ M 1 12 ≤ 150) (h : Q 0 (cLeave M p st)) : jCt yX8_leave cX8_leave 3 none 2 [jR 1, jI p, jI st] M Q := by
  refine jCt_of mt_yX8_leave (Nat.le_of_ble_eq_true rfl) (fun X => ?_)
  unfold cLeave at h
  refine e_aload_n (i := 0) 1 dX8_leave_0 rfl rfl rfl ?_
  refine e_getr (j := 9) 4 fl_8_42 dX8_leave_1 at_1 rfl rfl tp_1_9 rfl ?_
  refine e_iload_n (i := 1) 5 dX8_leave_4 rfl rfl rfl ?_
  refine e_aald 6 dX8_leave_5 ar_18 (by decide) (by omega) (by omega) (tp_pledge (by omega) (by omega)) rfl ?_
  refine e_iload_n (i := 2) 7 dX8_leave_6 rfl rfl rfl ?_
  refine e_puti (j := 6) 10 fl_8_135 dX8_leave_7 (at_pledge (by omega) (by omega)) rfl rfl rfl (by omega) rfl ?_
  refine e_aload_n (i := 0) 11 dX8_leave_10 rfl rfl rfl ?_
  refine e_getr (j := 9) 14 fl_8_42 dX8_leave_11 at_1 rfl rfl tp_1_9 rfl ?_
  refine e_iload_n (i := 1) 15 dX8_leave_14 rfl rfl rfl ?_
  refine e_aald 16 dX8_leave_15 ar_18 (by decide) (by omega) (by omega) (tp_pledge (by omega) (by omega)) rfl ?_
  refine e_iconst 17 dX8_leave_16 rfl ?_
  refine e_puti (j := 5) 20 fl_8_138 dX8_leave_17 (at_pledge (by omega) (by omega)) rfl rfl rfl (by decide) rfl ?_
  refine e_iload_n (i := 2) 21 dX8_leave_20 rfl rfl rfl ?_
  refine e_iconst 22 dX8_leave_21 rfl ?_
  refine e_icmp_ne 25 38 dX8_leave_22 (by omega) (by decide) (by decide) rfl (fun b22 => ?_) (fun b22 => ?_)
  · skip
    refine e_aload_n (i := 0) 39 dX8_leave_38 rfl rfl rfl ?_
    refine e_iload_n (i := 1) 40 dX8_leave_39 rfl rfl rfl ?_
    refine e_callV 43 mt_yX8_killTickets mv_yX8_killTickets wd_841 (by decide) dX8_leave_40 at_1 jc_8 rfl rfl rfl (Nat.le_of_ble_eq_true rfl) (jroom (by decide)) rfl (c_killTickets (by omega) (by simp (disch := omega) only [jset_k, jset_j, jset_same]; omega) ?_)
    dsimp only [jpush]
    refine e_vret dX8_leave_43 ?_
    rw [if_neg b22] at h
    simp (disch := omega) only [jset_k, jset_j]
    exact h
  · skip
    refine e_aload_n (i := 0) 26 dX8_leave_25 rfl rfl rfl ?_
    refine e_getr (j := 9) 29 fl_8_42 dX8_leave_26 at_1 rfl rfl tp_1_9 rfl ?_
    refine e_iload_n (i := 1) 30 dX8_leave_29 rfl rfl rfl ?_
    refine e_aald 31 dX8_leave_30 ar_18 (by decide) (by omega) (by omega) (tp_pledge (by omega) (by omega)) rfl ?_
    refine e_aload_n (i := 0) 32 dX8_leave_31 rfl rfl rfl ?_
    refine e_geti (j := 4) 35 fl_8_81 dX8_leave_32 at_1 (by decide) rfl rfl (fun r32 => ?_)
    simp (disch := omega) only [jset_k, jset_j, jset_same, true_and, and_true] at r32 ⊢
    refine e_puti (j := 8) 38 fl_8_198 dX8_leave_35 (at_pledge (by omega) (by omega)) rfl rfl rfl (by omega) rfl ?_
    refine e_aload_n (i := 0) 39 dX8_leave_38 rfl rfl rfl ?_
    refine e_iload_n (i := 1) 40 dX8_leave_39 rfl rfl rfl ?_
    refine e_callV 43 mt_yX8_killTickets mv_yX8_killTickets wd_841 (by decide) dX8_leave_40 at_1 jc_8 rfl rfl rfl (Nat.le_of_ble_eq_true rfl) (jroom (by decide)) rfl (c_killTickets (by omega) (by simp (disch := omega) only [jset_k, jset_j, jset_same]; omega) ?_)
    dsimp only [jpush]
    refine e_vret dX8_leave_43 ?_
    rw [if_pos b22] at h
    simp (disch := omega) only [jset_k, jset_j]
    exact h

theorem m_leaves {p st : Int} {M : jM} {Q : Int → jM → Prop} (hp : 0 ≤ p ∧ p < 60) (hs : st = 1 ∨ st = 2) (ht : 0 ≤ M 929 1310 ∧ M 929 1310 ≤ 150) (h : Q 0 (rLeave M p st)) : jCt yX12_leaves cX12_leaves 3 none 2 [jR 928, jI p, jI st] M Q := by
  refine jCt_of mt_yX12_leaves (Nat.le_of_ble_eq_true rfl) (fun X => ?_)
  unfold rLeave at h
  refine e_aload_n (i := 0) 1 dX12_leaves_0 rfl rfl rfl ?_
  refine e_getr (j := 1) 4 fl_12_13 dX12_leaves_1 at_928 rfl rfl tp_928_1 rfl ?_
  refine e_sipush 7 dX12_leaves_4 (by decide) rfl ?_
  refine e_iload_n (i := 1) 8 dX12_leaves_7 rfl rfl rfl ?_
  refine e_iadd 9 dX12_leaves_8 rfl ?_
  refine e_iload_n (i := 2) 10 dX12_leaves_9 rfl rfl rfl ?_
  refine e_iast 11 dX12_leaves_10 ar_929 (by omega) (by omega) (by omega) rfl ?_
  refine e_aload_n (i := 0) 12 dX12_leaves_11 rfl rfl rfl ?_
  refine e_getr (j := 1) 15 fl_12_13 dX12_leaves_12 at_928 rfl rfl tp_928_1 rfl ?_
  refine e_sipush 18 dX12_leaves_15 (by decide) rfl ?_
  refine e_iload_n (i := 1) 19 dX12_leaves_18 rfl rfl rfl ?_
  refine e_iadd 20 dX12_leaves_19 rfl ?_
  refine e_aload_n (i := 0) 21 dX12_leaves_20 rfl rfl rfl ?_
  refine e_getr (j := 1) 24 fl_12_13 dX12_leaves_21 at_928 rfl rfl tp_928_1 rfl ?_
  refine e_sipush 27 dX12_leaves_24 (by decide) rfl ?_
  refine e_iald 28 dX12_leaves_27 ar_929 (by decide) (by decide) rfl (fun r27 => ?_)
  simp (disch := omega) only [jset_k, jset_j, jset_same, true_and, and_true] at r27 ⊢
  refine e_iast 29 dX12_leaves_28 ar_929 (by omega) (by omega) (by omega) rfl ?_
  refine e_aload_n (i := 0) 30 dX12_leaves_29 rfl rfl rfl ?_
  refine e_getr (j := 1) 33 fl_12_13 dX12_leaves_30 at_928 rfl rfl tp_928_1 rfl ?_
  refine e_sipush 36 dX12_leaves_33 (by decide) rfl ?_
  refine e_iload_n (i := 1) 37 dX12_leaves_36 rfl rfl rfl ?_
  refine e_iadd 38 dX12_leaves_37 rfl ?_
  refine e_iconst 39 dX12_leaves_38 rfl ?_
  refine e_iast 40 dX12_leaves_39 ar_929 (by omega) (by omega) (by decide) rfl ?_
  refine e_aload_n (i := 0) 41 dX12_leaves_40 rfl rfl rfl ?_
  refine e_iload_n (i := 1) 42 dX12_leaves_41 rfl rfl rfl ?_
  refine e_callV 45 mt_yX12_kills mv_yX12_kills wd_1567 (by decide) dX12_leaves_42 at_928 jc_12 rfl rfl rfl (Nat.le_of_ble_eq_true rfl) (jroom (by decide)) rfl (m_kills (by omega) (by simp (disch := omega) only [jset_k, jset_j, jset_same]; omega) ?_)
  dsimp only [jpush]
  refine e_vret dX12_leaves_45 ?_
  simp (disch := omega) only [jset_k, jset_j]
  exact h

theorem l_roomLeft {X : jX} {r : Int} {M : jM} {Q : Int → jM → Prop} (hC : CR M) (hr : 0 ≤ r ∧ r < M 929 1761) (h : Q (rLeft (M 929) r (M 929 709).toNat) M) : ∀ (n i : Nat), (i : Int) + n = M 929 709 → ∀ (ii v : Int), ii = i → v = rLeft (M 929) r i → jE X yX8_roomLeft cX8_roomLeft 4 (some .int) 1 Q M 11 [(0, jR 1), (1, jI r), (2, jI v), (3, jI ii)] [] := by
  intro n
  induction n with
  | zero =>
    intro i hi ii v hii hv
    have hn := hC.cnt
    have hg := hC.rng
    have hlr := rLeft_rng hC.1 hr.1 hr.2 i (by omega)
    have e : (M 929 709).toNat = i := by omega
    rw [e] at h
    subst hv
    refine e_iload_n (i := 3) 12 dX8_roomLeft_11 rfl rfl rfl ?_
    refine e_aload_n (i := 0) 13 dX8_roomLeft_12 rfl rfl rfl ?_
    refine e_geti (j := 10) 16 fl_8_111 dX8_roomLeft_13 at_1 (by decide) rfl rfl (fun r13 => ?_)
    refine e_icmp_ge 19 58 dX8_roomLeft_16 (by omega) (by omega) (by decide) rfl (fun b16 => ?_) (fun b16 => ?_)
    · skip
      refine e_iload_n (i := 2) 59 dX8_roomLeft_58 rfl rfl rfl ?_
      refine e_iret dX8_roomLeft_59 ?_
      exact h
    · omega
  | succ n ih =>
    intro i hi ii v hii hv
    have hn := hC.cnt
    have hg := hC.rng
    have hlr := rLeft_rng hC.1 hr.1 hr.2 i (by omega)
    subst hii
    have hp := hC.pl (p := i) (by omega) (by omega)
    have hpr := hC.plr (p := i) (by omega) (by omega)
    have hk := hC.kind hpr.1.1 hpr.1.2
    have e0 : M (56 + M (84 + i) 0) 0 = M 929 (583 + M 929 (710 + i)) := by rw [hp.1.1]; exact hk.1.1
    refine e_iload_n (i := 3) 12 dX8_roomLeft_11 rfl rfl rfl ?_
    refine e_aload_n (i := 0) 13 dX8_roomLeft_12 rfl rfl rfl ?_
    refine e_geti (j := 10) 16 fl_8_111 dX8_roomLeft_13 at_1 (by decide) rfl rfl (fun r13 => ?_)
    refine e_icmp_ge 19 58 dX8_roomLeft_16 (by omega) (by omega) (by decide) rfl (fun b16 => ?_) (fun b16 => ?_)
    · omega
    · skip
      refine e_aload_n (i := 0) 20 dX8_roomLeft_19 rfl rfl rfl ?_
      refine e_getr (j := 9) 23 fl_8_42 dX8_roomLeft_20 at_1 rfl rfl tp_1_9 rfl ?_
      refine e_iload_n (i := 3) 24 dX8_roomLeft_23 rfl rfl rfl ?_
      refine e_aald 25 dX8_roomLeft_24 ar_18 (by decide) (by omega) (by omega) (tp_pledge (by omega) (by omega)) rfl ?_
      refine e_geti (j := 5) 28 fl_8_138 dX8_roomLeft_25 (at_pledge (by omega) (by omega)) (by decide) rfl rfl (fun r25 => ?_)
      refine e_iload_n (i := 1) 29 dX8_roomLeft_28 rfl rfl rfl ?_
      refine e_icmp_ne 32 52 dX8_roomLeft_29 (by omega) (by omega) (by decide) rfl (fun b29 => ?_) (fun b29 => ?_)
      · skip
        refine e_iinc (lsn := [(3, _), (0, _), (1, _), (2, _)]) 55 dX8_roomLeft_52 rfl (by decide) rfl rfl ?_
        refine e_goto 11 dX8_roomLeft_55 (by decide) ?_
        refine e_ls (ls2 := [(0, _), (1, _), (2, _), (3, _)]) rfl ?_
        refine ih (i + 1) (by omega) _ _ (by omega) ?_
        rw [hv, rLeft, if_neg (by omega)]; omega
      · skip
        refine e_iload_n (i := 2) 33 dX8_roomLeft_32 rfl rfl rfl ?_
        refine e_aload_n (i := 0) 34 dX8_roomLeft_33 rfl rfl rfl ?_
        refine e_getr (j := 5) 37 fl_8_30 dX8_roomLeft_34 at_1 rfl rfl tp_1_5 rfl ?_
        refine e_aload_n (i := 0) 38 dX8_roomLeft_37 rfl rfl rfl ?_
        refine e_getr (j := 9) 41 fl_8_42 dX8_roomLeft_38 at_1 rfl rfl tp_1_9 rfl ?_
        refine e_iload_n (i := 3) 42 dX8_roomLeft_41 rfl rfl rfl ?_
        refine e_aald 43 dX8_roomLeft_42 ar_18 (by decide) (by omega) (by omega) (tp_pledge (by omega) (by omega)) rfl ?_
        refine e_geti (j := 0) 46 fl_8_141 dX8_roomLeft_43 (at_pledge (by omega) (by omega)) (by decide) rfl rfl (fun r43 => ?_)
        refine e_aald 47 dX8_roomLeft_46 ar_16 (by decide) (by omega) (by omega) (tp_kind (by omega) (by omega)) rfl ?_
        refine e_geti (j := 0) 50 fl_8_144 dX8_roomLeft_47 (at_kind (by omega) (by omega)) (by decide) rfl rfl (fun r47 => ?_)
        refine e_isub 51 dX8_roomLeft_50 rfl ?_
        refine e_istore_n (i := 2) (lsn := [(2, _), (0, _), (1, _), (3, _)]) 52 dX8_roomLeft_51 rfl (by decide) rfl rfl ?_
        refine e_iinc (lsn := [(3, _), (2, _), (0, _), (1, _)]) 55 dX8_roomLeft_52 rfl (by decide) rfl rfl ?_
        refine e_goto 11 dX8_roomLeft_55 (by decide) ?_
        refine e_ls (ls2 := [(0, _), (1, _), (2, _), (3, _)]) rfl ?_
        refine ih (i + 1) (by omega) _ _ (by omega) ?_
        rw [hv, rLeft, if_pos (by omega)]; omega

theorem c_roomLeft {r : Int} {M : jM} {Q : Int → jM → Prop} (hC : CR M) (hr : 0 ≤ r ∧ r < M 929 1761) (h : Q (rLeft (M 929) r (M 929 709).toNat) M) : jCt yX8_roomLeft cX8_roomLeft 4 (some .int) 1 [jR 1, jI r] M Q := by
  refine jCt_of mt_yX8_roomLeft (Nat.le_of_ble_eq_true rfl) (fun X => ?_)
  have hn := hC.cnt
  have hg := hC.rng
  have hk := hC.rk hr.1 hr.2
  refine e_aload_n (i := 0) 1 dX8_roomLeft_0 rfl rfl rfl ?_
  refine e_getr (j := 13) 4 fl_8_54 dX8_roomLeft_1 at_1 rfl rfl tp_1_13 rfl ?_
  refine e_iload_n (i := 1) 5 dX8_roomLeft_4 rfl rfl rfl ?_
  refine e_aaldi 6 dX8_roomLeft_5 ar_20 (by omega) (by omega) (tp_rackrow (by omega) (by omega)) rfl ?_
  refine e_iconst 7 dX8_roomLeft_6 rfl ?_
  refine e_iald 8 dX8_roomLeft_7 (ar_rackrow (by omega) (by omega)) (by decide) (by decide) rfl (fun r7 => ?_)
  refine e_istore_n (i := 2) (lsn := [(2, _), (0, _), (1, _)]) 9 dX8_roomLeft_8 rfl (by decide) rfl rfl ?_
  refine e_iconst 10 dX8_roomLeft_9 rfl ?_
  refine e_istore_n (i := 3) (lsn := [(3, _), (2, _), (0, _), (1, _)]) 11 dX8_roomLeft_10 rfl (by decide) rfl rfl ?_
  refine e_ls (ls2 := [(0, _), (1, _), (2, _), (3, _)]) rfl ?_
  exact l_roomLeft hC hr h (M 929 709).toNat 0 (by omega) _ _ rfl (by rw [hk.1.1]; rfl)

def rHere (a : Int → Int) : Nat → Int
  | 0 => 0
  | n + 1 => rHere a n + (if a (1010 + n) = 0 then 1 else 0)
theorem rHere_rng (a : Int → Int) : ∀ n : Nat, 0 ≤ rHere a n ∧ rHere a n ≤ n
  | 0 => ⟨Int.le_refl 0, Int.le_refl 0⟩
  | n + 1 => by
    have ih := rHere_rng a n
    unfold rHere
    split <;> omega
theorem l_countHere {X : jX} {M : jM} {Q : Int → jM → Prop} (hC : CR M) (h : Q (rHere (M 929) (M 929 709).toNat) M) : ∀ (n i : Nat), (i : Int) + n = M 929 709 → ∀ (ii v : Int), ii = i → v = rHere (M 929) i → jE X yX8_countHere cX8_countHere 3 (some .int) 1 Q M 4 [(0, jR 1), (1, jI v), (2, jI ii)] [] := by
  intro n
  induction n with
  | zero =>
    intro i hi ii v hii hv
    have hn := hC.cnt
    have hg := hC.rng
    have hlr := rHere_rng (M 929) i
    have e : (M 929 709).toNat = i := by omega
    rw [e] at h
    subst hv
    refine e_iload_n (i := 2) 5 dX8_countHere_4 rfl rfl rfl ?_
    refine e_aload_n (i := 0) 6 dX8_countHere_5 rfl rfl rfl ?_
    refine e_geti (j := 10) 9 fl_8_111 dX8_countHere_6 at_1 (by decide) rfl rfl (fun r6 => ?_)
    refine e_icmp_ge 12 33 dX8_countHere_9 (by omega) (by omega) (by decide) rfl (fun b9 => ?_) (fun b9 => ?_)
    · skip
      refine e_iload_n (i := 1) 34 dX8_countHere_33 rfl rfl rfl ?_
      refine e_iret dX8_countHere_34 ?_
      exact h
    · omega
  | succ n ih =>
    intro i hi ii v hii hv
    have hn := hC.cnt
    have hg := hC.rng
    have hlr := rHere_rng (M 929) i
    subst hii
    have hp := hC.pl (p := i) (by omega) (by omega)
    refine e_iload_n (i := 2) 5 dX8_countHere_4 rfl rfl rfl ?_
    refine e_aload_n (i := 0) 6 dX8_countHere_5 rfl rfl rfl ?_
    refine e_geti (j := 10) 9 fl_8_111 dX8_countHere_6 at_1 (by decide) rfl rfl (fun r6 => ?_)
    refine e_icmp_ge 12 33 dX8_countHere_9 (by omega) (by omega) (by decide) rfl (fun b9 => ?_) (fun b9 => ?_)
    · omega
    · skip
      refine e_aload_n (i := 0) 13 dX8_countHere_12 rfl rfl rfl ?_
      refine e_getr (j := 9) 16 fl_8_42 dX8_countHere_13 at_1 rfl rfl tp_1_9 rfl ?_
      refine e_iload_n (i := 2) 17 dX8_countHere_16 rfl rfl rfl ?_
      refine e_aald 18 dX8_countHere_17 ar_18 (by decide) (by omega) (by omega) (tp_pledge (by omega) (by omega)) rfl ?_
      refine e_geti (j := 6) 21 fl_8_135 dX8_countHere_18 (at_pledge (by omega) (by omega)) (by decide) rfl rfl (fun r18 => ?_)
      refine e_if_ne 24 27 dX8_countHere_21 (by omega) (by decide) rfl (fun b21 => ?_) (fun b21 => ?_)
      · skip
        refine e_iinc (lsn := [(2, _), (0, _), (1, _)]) 30 dX8_countHere_27 rfl (by decide) rfl rfl ?_
        refine e_goto 4 dX8_countHere_30 (by decide) ?_
        refine e_ls (ls2 := [(0, _), (1, _), (2, _)]) rfl ?_
        refine ih (i + 1) (by omega) _ _ (by omega) ?_
        rw [hv, rHere, if_neg (by omega)]; omega
      · skip
        refine e_iinc (lsn := [(1, _), (0, _), (2, _)]) 27 dX8_countHere_24 rfl (by decide) rfl rfl ?_
        refine e_iinc (lsn := [(2, _), (1, _), (0, _)]) 30 dX8_countHere_27 rfl (by decide) rfl rfl ?_
        refine e_goto 4 dX8_countHere_30 (by decide) ?_
        refine e_ls (ls2 := [(0, _), (1, _), (2, _)]) rfl ?_
        refine ih (i + 1) (by omega) _ _ (by omega) ?_
        rw [hv, rHere, if_pos (by omega)]

theorem c_countHere {M : jM} {Q : Int → jM → Prop} (hC : CR M) (h : Q (rHere (M 929) (M 929 709).toNat) M) : jCt yX8_countHere cX8_countHere 3 (some .int) 1 [jR 1] M Q := by
  refine jCt_of mt_yX8_countHere (Nat.le_of_ble_eq_true rfl) (fun X => ?_)
  have hn := hC.cnt
  have hg := hC.rng
  refine e_iconst 1 dX8_countHere_0 rfl ?_
  refine e_istore_n (i := 1) (lsn := [(1, _), (0, _)]) 2 dX8_countHere_1 rfl (by decide) rfl rfl ?_
  refine e_iconst 3 dX8_countHere_2 rfl ?_
  refine e_istore_n (i := 2) (lsn := [(2, _), (1, _), (0, _)]) 4 dX8_countHere_3 rfl (by decide) rfl rfl ?_
  refine e_ls (ls2 := [(0, _), (1, _), (2, _)]) rfl ?_
  exact l_countHere hC h (M 929 709).toNat 0 (by omega) _ _ rfl rfl

theorem l_hereOf {X : jX} {M : jM} {Q : Int → jM → Prop} (hC : CR M) (h : Q (rHere (M 929) (M 929 709).toNat) M) : ∀ (n i : Nat), (i : Int) + n = M 929 709 → ∀ (ii v : Int), ii = i → v = rHere (M 929) i → jE X yX12_hereOf cX12_hereOf 3 (some .int) 1 Q M 4 [(0, jR 928), (1, jI v), (2, jI ii)] [] := by
  intro n
  induction n with
  | zero =>
    intro i hi ii v hii hv
    have hg := hC.rng
    have hlr := rHere_rng (M 929) i
    have e : (M 929 709).toNat = i := by omega
    rw [e] at h
    subst hv
    refine e_iload_n (i := 2) 5 dX12_hereOf_4 rfl rfl rfl ?_
    refine e_aload_n (i := 0) 6 dX12_hereOf_5 rfl rfl rfl ?_
    refine e_getr (j := 1) 9 fl_12_13 dX12_hereOf_6 at_928 rfl rfl tp_928_1 rfl ?_
    refine e_sipush 12 dX12_hereOf_9 (by decide) rfl ?_
    refine e_iald 13 dX12_hereOf_12 ar_929 (by decide) (by decide) rfl (fun r12 => ?_)
    refine e_icmp_ge 16 43 dX12_hereOf_13 (by omega) (by omega) (by decide) rfl (fun b13 => ?_) (fun b13 => ?_)
    · skip
      refine e_iload_n (i := 1) 44 dX12_hereOf_43 rfl rfl rfl ?_
      refine e_iret dX12_hereOf_44 ?_
      exact h
    · omega
  | succ n ih =>
    intro i hi ii v hii hv
    have hg := hC.rng
    have hlr := rHere_rng (M 929) i
    subst hii
    refine e_iload_n (i := 2) 5 dX12_hereOf_4 rfl rfl rfl ?_
    refine e_aload_n (i := 0) 6 dX12_hereOf_5 rfl rfl rfl ?_
    refine e_getr (j := 1) 9 fl_12_13 dX12_hereOf_6 at_928 rfl rfl tp_928_1 rfl ?_
    refine e_sipush 12 dX12_hereOf_9 (by decide) rfl ?_
    refine e_iald 13 dX12_hereOf_12 ar_929 (by decide) (by decide) rfl (fun r12 => ?_)
    refine e_icmp_ge 16 43 dX12_hereOf_13 (by omega) (by omega) (by decide) rfl (fun b13 => ?_) (fun b13 => ?_)
    · omega
    · skip
      refine e_iload_n (i := 1) 17 dX12_hereOf_16 rfl rfl rfl ?_
      refine e_aload_n (i := 0) 18 dX12_hereOf_17 rfl rfl rfl ?_
      refine e_getr (j := 1) 21 fl_12_13 dX12_hereOf_18 at_928 rfl rfl tp_928_1 rfl ?_
      refine e_sipush 24 dX12_hereOf_21 (by decide) rfl ?_
      refine e_iload_n (i := 2) 25 dX12_hereOf_24 rfl rfl rfl ?_
      refine e_iadd 26 dX12_hereOf_25 rfl ?_
      refine e_iald 27 dX12_hereOf_26 ar_929 (by omega) (by omega) rfl (fun r26 => ?_)
      refine e_if_ne 30 34 dX12_hereOf_27 (by omega) (by decide) rfl (fun b27 => ?_) (fun b27 => ?_)
      · skip
        refine e_iconst 35 dX12_hereOf_34 rfl ?_
        refine e_iadd 36 dX12_hereOf_35 rfl ?_
        refine e_istore_n (i := 1) (lsn := [(1, _), (0, _), (2, _)]) 37 dX12_hereOf_36 rfl (by decide) rfl rfl ?_
        refine e_iinc (lsn := [(2, _), (1, _), (0, _)]) 40 dX12_hereOf_37 rfl (by decide) rfl rfl ?_
        refine e_goto 4 dX12_hereOf_40 (by decide) ?_
        refine e_ls (ls2 := [(0, _), (1, _), (2, _)]) rfl ?_
        refine ih (i + 1) (by omega) _ _ (by omega) ?_
        rw [hv, rHere, if_neg (by omega)]
      · skip
        refine e_iconst 31 dX12_hereOf_30 rfl ?_
        refine e_goto 35 dX12_hereOf_31 (by decide) ?_
        refine e_iadd 36 dX12_hereOf_35 rfl ?_
        refine e_istore_n (i := 1) (lsn := [(1, _), (0, _), (2, _)]) 37 dX12_hereOf_36 rfl (by decide) rfl rfl ?_
        refine e_iinc (lsn := [(2, _), (1, _), (0, _)]) 40 dX12_hereOf_37 rfl (by decide) rfl rfl ?_
        refine e_goto 4 dX12_hereOf_40 (by decide) ?_
        refine e_ls (ls2 := [(0, _), (1, _), (2, _)]) rfl ?_
        refine ih (i + 1) (by omega) _ _ (by omega) ?_
        rw [hv, rHere, if_pos (by omega)]

theorem m_hereOf {M : jM} {Q : Int → jM → Prop} (hC : CR M) (h : Q (rHere (M 929) (M 929 709).toNat) M) : jCt yX12_hereOf cX12_hereOf 3 (some .int) 1 [jR 928] M Q := by
  refine jCt_of mt_yX12_hereOf (Nat.le_of_ble_eq_true rfl) (fun X => ?_)
  have hn := hC.cnt
  have hg := hC.rng
  refine e_iconst 1 dX12_hereOf_0 rfl ?_
  refine e_istore_n (i := 1) (lsn := [(1, _), (0, _)]) 2 dX12_hereOf_1 rfl (by decide) rfl rfl ?_
  refine e_iconst 3 dX12_hereOf_2 rfl ?_
  refine e_istore_n (i := 2) (lsn := [(2, _), (1, _), (0, _)]) 4 dX12_hereOf_3 rfl (by decide) rfl rfl ?_
  refine e_ls (ls2 := [(0, _), (1, _), (2, _)]) rfl ?_
  exact l_hereOf hC h (M 929 709).toNat 0 (by omega) _ _ rfl rfl

theorem c_lentLessBack {v : Int} {M : jM} {Q : Int → jM → Prop} (hC : CR M) (hv : 0 ≤ v ∧ v < 301) (h : Q (M 929 (1782 + v) - M 929 (3287 + v)) M) : jCt yX8_lentLessBack cX8_lentLessBack 2 (some .int) 1 [jR 1, jI v] M Q := by
  refine jCt_of mt_yX8_lentLessBack (Nat.le_of_ble_eq_true rfl) (fun X => ?_)
  have hb := hC.bk hv.1 hv.2
  have e1 : M (32 + 0) v = M 929 (1782 + v) := hb.1
  have e2 : M (32 + 5) v = M 929 (3287 + v) := hb.2.2.2.2.2
  refine e_aload_n (i := 0) 1 dX8_lentLessBack_0 rfl rfl rfl ?_
  refine e_getr (j := 15) 4 fl_8_57 dX8_lentLessBack_1 at_1 rfl rfl tp_1_15 rfl ?_
  refine e_iconst 5 dX8_lentLessBack_4 rfl ?_
  refine e_aaldi 6 dX8_lentLessBack_5 ar_31 (by decide) (by decide) (tp_bookrow (by decide) (by decide)) rfl ?_
  refine e_iload_n (i := 1) 7 dX8_lentLessBack_6 rfl rfl rfl ?_
  refine e_iald 8 dX8_lentLessBack_7 (ar_bookrow (by decide) (by decide)) (by omega) (by omega) rfl (fun r7 => ?_)
  refine e_aload_n (i := 0) 9 dX8_lentLessBack_8 rfl rfl rfl ?_
  refine e_getr (j := 15) 12 fl_8_57 dX8_lentLessBack_9 at_1 rfl rfl tp_1_15 rfl ?_
  refine e_iconst 13 dX8_lentLessBack_12 rfl ?_
  refine e_aaldi 14 dX8_lentLessBack_13 ar_31 (by decide) (by decide) (tp_bookrow (by decide) (by decide)) rfl ?_
  refine e_iload_n (i := 1) 15 dX8_lentLessBack_14 rfl rfl rfl ?_
  refine e_iald 16 dX8_lentLessBack_15 (ar_bookrow (by decide) (by decide)) (by omega) (by omega) rfl (fun r15 => ?_)
  refine e_isub 17 dX8_lentLessBack_16 rfl ?_
  refine e_iret dX8_lentLessBack_17 ?_
  rw [e1, e2]
  exact h

