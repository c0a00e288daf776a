/-! TEXTS *** the class: tests -/
theorem prc_ok {M : jM} {n : Int} (hM : CM M n) (f m : Nat) (s : PS) (hI : PI n s) : PQ n s (prs (M 931) n f m s) := by
  obtain ⟨Y, hT, e⟩ := hM.rt
  have q := prs_ok hT f m s hI
  rw [e] at q
  exact q
theorem fac_tab {k r : Int} (hk : 14 ≤ k ∧ k ≤ 19) (hr : r = k - 14) (h0 : k ≠ 14) : (jzt 3).getD r.toNat 0 = aLo k ∧ (jzt 4).getD r.toNat 0 = aHi k := by
  have hc : k = 15 ∨ k = 16 ∨ k = 17 ∨ k = 18 ∨ k = 19 := by omega
  subst hr
  rcases hc with h | h | h | h | h <;> subst h <;> decide
theorem alo_r (k : Int) : 0 ≤ aLo k ∧ aLo k ≤ 1 := by
  unfold aLo
  split <;> omega
theorem ahi_r (k : Int) : 0 ≤ aHi k ∧ aHi k ≤ 999 := by
  unfold aHi
  split
  · omega
  · split
    · omega
    · split
      · omega
      · split <;> omega
theorem opC_f {k : Int} (h : 14 ≤ k ∧ k ≤ 19) : k - 14 = opC k := by
  unfold opC
  rw [if_neg (by omega), if_neg (by omega), if_neg (by omega)]
def pOp (t : Int → Int) (n : Int) (f : Nat) (s : PS) : PS := if s.2.2.2.2.2.2.1 = 8 then pFail 5 s else if s.2.2.1 = 13 then pEm 13 (pOut (prs t n f 0 (pIn (pNext t n s)))) else pMust t n 24 (pOut (prs t n f 4 (pIn (pNext t n s))))
def KFact (M : jM) (n : Int) (f : Nat) : Prop := ∀ (s : PS) (Z : jM) (b op : Int) (Q : Int → jM → Prop) (e : Nat), CTk M Z n s → PI n s → CK Z s b → op = s.2.2.2.2.2.2.1 → 5 * (n - s.1) + 1 ≤ f → 8 - s.2.2.2.2.2.2.1 ≤ e → (∀ W : jM, CTk M W n (prs (M 931) n f 0 s) → CK W (prs (M 931) n f 0 s) b → Q 0 W) → jCt yX6_readFact cX6_readFact 3 none (4 * e + 8) [jR 882, jI op] Z Q
def KPart (M : jM) (n : Int) (f : Nat) : Prop := ∀ (s : PS) (Z : jM) (b op : Int) (Q : Int → jM → Prop) (e : Nat), CTk M Z n s → PI n s → CK Z s b → op = s.2.2.2.2.2.2.1 → 5 * (n - s.1) + 2 ≤ f → 8 - s.2.2.2.2.2.2.1 ≤ e → (∀ W : jM, CTk M W n (prs (M 931) n f 3 s) → CK W (prs (M 931) n f 3 s) b → Q 0 W) → jCt yX6_readPart cX6_readPart 3 none (4 * e + 9) [jR 882, jI op] Z Q
def KTest (M : jM) (n : Int) (f : Nat) : Prop := ∀ (s : PS) (Z : jM) (b op : Int) (Q : Int → jM → Prop) (e : Nat), CTk M Z n s → PI n s → CK Z s b → op = s.2.2.2.2.2.2.1 → 5 * (n - s.1) + 3 ≤ f → 8 - s.2.2.2.2.2.2.1 ≤ e → (∀ W : jM, CTk M W n (prs (M 931) n f 4 s) → CK W (prs (M 931) n f 4 s) b → Q 0 W) → jCt yX6_readTest cX6_readTest 3 none (4 * e + 10) [jR 882, jI op] Z Q
def KLp (M : jM) (n : Int) (f : Nat) : Prop := ∀ (X : jX) (s : PS) (Z : jM) (b op i : Int) (Q : Int → jM → Prop) (e : Nat), CTk M Z n s → PI n s → CK Z s b → op = s.2.2.2.2.2.2.1 → 5 * (n - s.1) + 1 ≤ f → 8 - s.2.2.2.2.2.2.1 ≤ e → (s.2.2.2.2.1 = 0 → i ≤ s.1) → (0 ≤ i ∧ i ≤ 401) → (∀ W : jM, CTk M W n (prs (M 931) n f 1 s) → CK W (prs (M 931) n f 1 s) b → Q 0 W) → jE X yX6_readPart cX6_readPart 3 none (4 * e + 9) Q Z 7 [(0, jR 882), (1, jI op), (2, jI i)] []
def KLt (M : jM) (n : Int) (f : Nat) : Prop := ∀ (X : jX) (s : PS) (Z : jM) (b op i : Int) (Q : Int → jM → Prop) (e : Nat), CTk M Z n s → PI n s → CK Z s b → op = s.2.2.2.2.2.2.1 → 5 * (n - s.1) + 1 ≤ f → 8 - s.2.2.2.2.2.2.1 ≤ e → (s.2.2.2.2.1 = 0 → i ≤ s.1) → (0 ≤ i ∧ i ≤ 401) → (∀ W : jM, CTk M W n (prs (M 931) n f 2 s) → CK W (prs (M 931) n f 2 s) b → Q 0 W) → jE X yX6_readTest cX6_readTest 3 none (4 * e + 10) Q Z 7 [(0, jR 882), (1, jI op), (2, jI i)] []
theorem k_opened {M : jM} {n : Int} (hM : CM M n) {f : Nat} (hKF : KFact M n f) (hKT : KTest M n f) {s : PS} {Z : jM} {b op : Int} {Q : Int → jM → Prop} {e : Nat} (hZ : CTk M Z n s) (hI : PI n s) (hK : CK Z s b) (hop : op = s.2.2.2.2.2.2.1 + 1) (hw : s.2.2.2.2.1 = 0) (hk : s.2.2.1 = 13 ∨ s.2.2.1 = 23) (hm : 5 * (n - s.1) + 1 ≤ (f : Int) + 1) (he : 8 - s.2.2.2.2.2.2.1 ≤ e) (h : ∀ W : jM, CTk M W n (pOp (M 931) n f s) → CK W (pOp (M 931) n f s) b → Q 0 W) : jCt yX6_readOpened cX6_readOpened 3 none (4 * e + 7) [jR 882, jI op] Z Q := by
  refine jCt_of mt_yX6_readOpened (Nat.le_of_ble_eq_true rfl) (fun X => ?_)
  have e3 := hZ.2.2.2.1.1
  have e5 := hZ.2.2.2.1.2.1
  have eT := hZ.2.2.2.1.2.2
  have hi1 := hI.1
  have hi2 := hI.2.1
  have hn0 := hM.1
  have ew := hZ.2.2.2.2.1
  have hd0 := hI.2.2.2.2.2.1
  have hks := hK.2.1
  refine e_iload_n (i := 1) 1 dX6_readOpened_0 rfl rfl rfl ?_
  refine e_bipush 3 dX6_readOpened_1 (by decide) rfl ?_
  refine e_icmp_le 6 12 dX6_readOpened_3 (by omega) (by decide) (by decide) rfl (fun b3 => ?_) (fun b3 => ?_)
  · first
     | (exfalso; omega)
     | (skip
        refine e_aload_n (i := 0) 13 dX6_readOpened_12 rfl rfl rfl ?_
        refine e_getr (j := 0) 16 fl_6_12 dX6_readOpened_13 at_882 rfl rfl tp_882_0 rfl ?_
        refine e_ldcS 18 (i := 11) (by decide) rfl rfl dX6_readOpened_16 rfl ?_
        refine e_callV 21 mt_yX9_spells mv_yX9_spells wd_555 (by decide) dX6_readOpened_18 at_883 jc_9 rfl rfl rfl (Nat.le_of_ble_eq_true rfl) (jroom (by omega)) rfl (c_spells_13 hM hZ hI (fun w18 => ?_) (fun w18 => ?_))
        · dsimp only [jpush]
          first
           | (exfalso; omega)
           | (skip
              refine e_istore_n (i := 2) (lsn := [(2, _), (0, _), (1, _)]) 22 dX6_readOpened_21 rfl (by decide) rfl rfl ?_
              refine e_aload_n (i := 0) 23 dX6_readOpened_22 rfl rfl rfl ?_
              refine e_getr (j := 0) 26 fl_6_12 dX6_readOpened_23 at_882 rfl rfl tp_882_0 rfl ?_
              refine e_callV 29 mt_yX9_step mv_yX9_step wd_615 (by decide) dX6_readOpened_26 at_883 jc_9 rfl rfl rfl (Nat.le_of_ble_eq_true rfl) (jroom (by omega)) rfl (c_stp hM hZ hI (by omega) (fun W26 hW26 hO26 => ?_))
              dsimp only [jpush]
              (try simp (disch := omega) only [jset_k, jset_j, jset_same, true_and, and_true] at W26 hW26 hO26)
              obtain ⟨s1, e1⟩ : ∃ z, z = pNext (M 931) n s := ⟨_, rfl⟩
              have k1 := pc_next hM hI hw
              rw [← e1] at hW26 k1
              have hK1 := hK.pk hO26 k1.1
              obtain ⟨s2, e2⟩ : ∃ z, z = pIn s1 := ⟨_, rfl⟩
              have d1 : s1.2.2.2.2.2.2.1 = s.2.2.2.2.2.2.1 := by rw [e1]; rfl
              have d2 : s2.2.2.2.2.2.2.1 = s1.2.2.2.2.2.2.1 + 1 := by rw [e2]; rfl
              have p2 : s2.1 = s1.1 := by rw [e2]; rfl
              have l1 := k1.2
              have hZ2 : CTk M W26 n s2 := by
                rw [e2]
                exact hW26
              have hI2 : PI n s2 := by
                rw [e2]
                exact pi_in k1.1.1 (by omega)
              have hK2 : CK W26 s2 b := by
                rw [e2]
                exact hK1
              refine e_iload_n (i := 2) 30 dX6_readOpened_29 rfl rfl rfl ?_
              refine e_if_eq 33 51 dX6_readOpened_30 (by decide) (by decide) rfl (fun h => absurd h (by decide)) (fun _ => ?_)
              refine e_aload_n (i := 0) 34 dX6_readOpened_33 rfl rfl rfl ?_
              refine e_iload_n (i := 1) 35 dX6_readOpened_34 rfl rfl rfl ?_
              refine e_callV 38 mt_yX6_readFact mv_yX6_readFact wd_670 (by decide) dX6_readOpened_35 at_882 jc_6 rfl rfl rfl (Nat.le_of_ble_eq_true rfl) (jroom (by omega)) rfl (hKF s2 _ b _ _ (e - 1) hZ2 hI2 hK2 (by omega) (by omega) (by omega) (fun W35 hW35 hK35 => ?_))
              dsimp only [jpush]
              (try simp (disch := omega) only [jset_k, jset_j, jset_same, true_and, and_true] at W35 hW35 hK35)
              obtain ⟨s3, e3⟩ : ∃ z, z = prs (M 931) n f 0 s2 := ⟨_, rfl⟩
              have k3 := prc_ok hM f 0 s2 hI2
              rw [← e3] at hW35 hK35 k3
              have k4 := pq_io (s := s1) (z := s3) (by omega) k1.1.1 (by rw [← e2]; exact k3)
              obtain ⟨s4, e4⟩ : ∃ z, z = pOut s3 := ⟨_, rfl⟩
              rw [← e4] at k4
              have hI4 := k4.1
              have hZ4 : CTk M W35 n s4 := by
                rw [e4]
                exact hW35
              have hK4 : CK W35 s4 b := by
                rw [e4]
                exact hK35
              have hks3 := hK4.2.1
              refine e_aload_n (i := 0) 39 dX6_readOpened_38 rfl rfl rfl ?_
              refine e_getr (j := 2) 42 fl_6_28 dX6_readOpened_39 at_882 rfl rfl tp_882_2 rfl ?_
              refine e_bipush 44 dX6_readOpened_42 (by decide) rfl ?_
              refine e_iconst 45 dX6_readOpened_44 rfl ?_
              refine e_callV 48 mt_yX2_add mv_yX2_add wd_679 (by decide) dX6_readOpened_45 at_890 jc_2 rfl rfl rfl (Nat.le_of_ble_eq_true rfl) (jroom (by omega)) rfl (c_ladd (by omega) (by omega) (by omega) (fun W45 hA45 => ?_))
              dsimp only [jpush]
              (try simp (disch := omega) only [jset_k, jset_j, jset_same, true_and, and_true] at W45 hA45)
              refine e_goto 69 dX6_readOpened_48 (by decide) ?_
              refine e_vret dX6_readOpened_69 ?_
              first
                | (exfalso; omega)
                | (have ep : pOp (M 931) n f s = pEm 13 s4 := by
                     rw [pOp, if_neg (by omega), if_pos (by omega), ← e1, ← e2, ← e3, ← e4]
                   rw [ep] at h
                   exact h _ (hZ4.ca hA45).em (hK4.em hI4 hn0.2 (by decide) hA45)))
        · dsimp only [jpush]
          first
           | (exfalso; omega)
           | (skip
              refine e_istore_n (i := 2) (lsn := [(2, _), (0, _), (1, _)]) 22 dX6_readOpened_21 rfl (by decide) rfl rfl ?_
              refine e_aload_n (i := 0) 23 dX6_readOpened_22 rfl rfl rfl ?_
              refine e_getr (j := 0) 26 fl_6_12 dX6_readOpened_23 at_882 rfl rfl tp_882_0 rfl ?_
              refine e_callV 29 mt_yX9_step mv_yX9_step wd_615 (by decide) dX6_readOpened_26 at_883 jc_9 rfl rfl rfl (Nat.le_of_ble_eq_true rfl) (jroom (by omega)) rfl (c_stp hM hZ hI (by omega) (fun W26 hW26 hO26 => ?_))
              dsimp only [jpush]
              (try simp (disch := omega) only [jset_k, jset_j, jset_same, true_and, and_true] at W26 hW26 hO26)
              obtain ⟨s1, e1⟩ : ∃ z, z = pNext (M 931) n s := ⟨_, rfl⟩
              have k1 := pc_next hM hI hw
              rw [← e1] at hW26 k1
              have hK1 := hK.pk hO26 k1.1
              obtain ⟨s2, e2⟩ : ∃ z, z = pIn s1 := ⟨_, rfl⟩
              have d1 : s1.2.2.2.2.2.2.1 = s.2.2.2.2.2.2.1 := by rw [e1]; rfl
              have d2 : s2.2.2.2.2.2.2.1 = s1.2.2.2.2.2.2.1 + 1 := by rw [e2]; rfl
              have p2 : s2.1 = s1.1 := by rw [e2]; rfl
              have l1 := k1.2
              have hZ2 : CTk M W26 n s2 := by
                rw [e2]
                exact hW26
              have hI2 : PI n s2 := by
                rw [e2]
                exact pi_in k1.1.1 (by omega)
              have hK2 : CK W26 s2 b := by
                rw [e2]
                exact hK1
              refine e_iload_n (i := 2) 30 dX6_readOpened_29 rfl rfl rfl ?_
              refine e_if_eq 33 51 dX6_readOpened_30 (by decide) (by decide) rfl (fun _ => ?_) (fun h => absurd h (by decide))
              refine e_aload_n (i := 0) 52 dX6_readOpened_51 rfl rfl rfl ?_
              refine e_iload_n (i := 1) 53 dX6_readOpened_52 rfl rfl rfl ?_
              refine e_callV 56 mt_yX6_readTest mv_yX6_readTest wd_662 (by decide) dX6_readOpened_53 at_882 jc_6 rfl rfl rfl (Nat.le_of_ble_eq_true rfl) (jroom (by omega)) rfl (hKT s2 _ b _ _ (e - 1) hZ2 hI2 hK2 (by omega) (by omega) (by omega) (fun W53 hW53 hK53 => ?_))
              dsimp only [jpush]
              (try simp (disch := omega) only [jset_k, jset_j, jset_same, true_and, and_true] at W53 hW53 hK53)
              obtain ⟨s3, e3⟩ : ∃ z, z = prs (M 931) n f 4 s2 := ⟨_, rfl⟩
              have k3 := prc_ok hM f 4 s2 hI2
              rw [← e3] at hW53 hK53 k3
              have k4 := pq_io (s := s1) (z := s3) (by omega) k1.1.1 (by rw [← e2]; exact k3)
              obtain ⟨s4, e4⟩ : ∃ z, z = pOut s3 := ⟨_, rfl⟩
              rw [← e4] at k4
              have hI4 := k4.1
              have hZ4 : CTk M W53 n s4 := by
                rw [e4]
                exact hW53
              have hK4 : CK W53 s4 b := by
                rw [e4]
                exact hK53
              have hks3 := hK4.2.1
              refine e_aload_n (i := 0) 57 dX6_readOpened_56 rfl rfl rfl ?_
              refine e_aload_n (i := 0) 58 dX6_readOpened_57 rfl rfl rfl ?_
              refine e_getr (j := 0) 61 fl_6_12 dX6_readOpened_58 at_882 rfl rfl tp_882_0 rfl ?_
              refine e_bipush 63 dX6_readOpened_61 (by decide) rfl ?_
              refine e_callV 66 mt_yX9_isSign mv_yX9_isSign wd_648 (by decide) dX6_readOpened_63 at_883 jc_9 rfl rfl rfl (Nat.le_of_ble_eq_true rfl) (jroom (by omega)) rfl (c_isSign (k := 24) hM hZ4 hI4 (by omega) (fun w63 => ?_) (fun w63 => ?_))
              · dsimp only [jpush]
                (try simp (disch := omega) only [jset_k, jset_j, jset_same, true_and, and_true] at w63)
                first
                 | (exfalso; omega)
                 | (skip
                    refine e_callV 69 mt_yX6_pass mv_yX6_pass wd_625 (by decide) dX6_readOpened_66 at_882 jc_6 rfl rfl rfl (Nat.le_of_ble_eq_true rfl) (jroom (by omega)) rfl (c_pass (k := 24) hM hZ4 hI4 (by omega) (fun W66 hW66 hO66 => ?_))
                    dsimp only [jpush]
                    (try simp (disch := omega) only [jset_k, jset_j, jset_same, true_and, and_true] at W66 hW66 hO66)
                    refine e_vret dX6_readOpened_69 ?_
                    first
                      | (exfalso; omega)
                      | (have ep : pOp (M 931) n f s = pMust (M 931) n 24 s4 := by
                           rw [pOp, if_neg (by omega), if_neg (by omega), ← e1, ← e2, ← e3, ← e4]
                         rw [ep] at h
                         exact h _ hW66 (hK4.pk hO66 (pc_must hM hI4))))
              · dsimp only [jpush]
                (try simp (disch := omega) only [jset_k, jset_j, jset_same, true_and, and_true] at w63)
                first
                 | (exfalso; omega)
                 | (skip
                    refine e_callV 69 mt_yX6_pass mv_yX6_pass wd_625 (by decide) dX6_readOpened_66 at_882 jc_6 rfl rfl rfl (Nat.le_of_ble_eq_true rfl) (jroom (by omega)) rfl (c_pass (k := 24) hM hZ4 hI4 (by omega) (fun W66 hW66 hO66 => ?_))
                    dsimp only [jpush]
                    (try simp (disch := omega) only [jset_k, jset_j, jset_same, true_and, and_true] at W66 hW66 hO66)
                    refine e_vret dX6_readOpened_69 ?_
                    first
                      | (exfalso; omega)
                      | (have ep : pOp (M 931) n f s = pMust (M 931) n 24 s4 := by
                           rw [pOp, if_neg (by omega), if_neg (by omega), ← e1, ← e2, ← e3, ← e4]
                         rw [ep] at h
                         exact h _ hW66 (hK4.pk hO66 (pc_must hM hI4))))))
  · first
     | (exfalso; omega)
     | (skip
        refine e_aload_n (i := 0) 7 dX6_readOpened_6 rfl rfl rfl ?_
        refine e_iconst 8 dX6_readOpened_7 rfl ?_
        refine e_callV 11 mt_yX6_refuse mv_yX6_refuse wd_611 (by decide) dX6_readOpened_8 at_882 jc_6 rfl rfl rfl (Nat.le_of_ble_eq_true rfl) (jroom (by omega)) rfl (c_rfs hM hZ hI (by omega) (by omega) (fun W8 hW8 hO8 => ?_))
        dsimp only [jpush]
        (try simp (disch := omega) only [jset_k, jset_j, jset_same, true_and, and_true] at W8 hW8 hO8)
        refine e_vret dX6_readOpened_11 ?_
        first
          | (exfalso; omega)
          | (have ep : pOp (M 931) n f s = pFail 5 s := if_pos (by omega)
             rw [ep] at h
             exact h _ hW8 (hK.pk hO8 (pk_fail (by omega) hI).1)))

theorem c_fhere {M Z : jM} {n : Int} {Q : Int → jM → Prop} (hM : CM M n) {s : PS} (hZ : CTk M Z n s) (hI : PI n s) (h : ∀ r : Int, (14 ≤ s.2.2.1 ∧ s.2.2.1 ≤ 19 ∧ r = s.2.2.1 - 14) ∨ (r = -1 ∧ ¬ (14 ≤ s.2.2.1 ∧ s.2.2.1 ≤ 19)) → Q r Z) : jCt yX6_factHere cX6_factHere 1 (some .int) 6 [jR 882] Z Q := by
  refine jCt_of mt_yX6_factHere (Nat.le_of_ble_eq_true rfl) (fun X => ?_)
  have e3 := hZ.2.2.2.1.1
  have e5 := hZ.2.2.2.1.2.1
  have eT := hZ.2.2.2.1.2.2
  have hi1 := hI.1
  have hi2 := hI.2.1
  have hn0 := hM.1
  refine e_aload_n (i := 0) 1 dX6_factHere_0 rfl rfl rfl ?_
  refine e_getr (j := 0) 4 fl_6_12 dX6_factHere_1 at_882 rfl rfl tp_882_0 rfl ?_
  refine e_ldcS 6 (i := 12) (by decide) rfl rfl dX6_factHere_4 rfl ?_
  refine e_callV 9 mt_yX9_spells mv_yX9_spells wd_555 (by decide) dX6_factHere_6 at_883 jc_9 rfl rfl rfl (Nat.le_of_ble_eq_true rfl) (jroom (by decide)) rfl (c_spells_14 hM hZ hI (fun w6 => ?_) (fun w6 => ?_))
  · dsimp only [jpush]
    refine e_if_eq 12 14 dX6_factHere_9 (by decide) (by decide) rfl (fun h => absurd h (by decide)) (fun _ => ?_)
    refine e_iconst 13 dX6_factHere_12 rfl ?_
    refine e_iret dX6_factHere_13 ?_
    exact h _ (by omega)
  · dsimp only [jpush]
    refine e_if_eq 12 14 dX6_factHere_9 (by decide) (by decide) rfl (fun _ => ?_) (fun h => absurd h (by decide))
    refine e_aload_n (i := 0) 15 dX6_factHere_14 rfl rfl rfl ?_
    refine e_getr (j := 0) 18 fl_6_12 dX6_factHere_15 at_882 rfl rfl tp_882_0 rfl ?_
    refine e_ldcS 20 (i := 13) (by decide) rfl rfl dX6_factHere_18 rfl ?_
    refine e_callV 23 mt_yX9_spells mv_yX9_spells wd_555 (by decide) dX6_factHere_20 at_883 jc_9 rfl rfl rfl (Nat.le_of_ble_eq_true rfl) (jroom (by decide)) rfl (c_spells_15 hM hZ hI (fun w20 => ?_) (fun w20 => ?_))
    · dsimp only [jpush]
      refine e_if_eq 26 28 dX6_factHere_23 (by decide) (by decide) rfl (fun h => absurd h (by decide)) (fun _ => ?_)
      refine e_iconst 27 dX6_factHere_26 rfl ?_
      refine e_iret dX6_factHere_27 ?_
      exact h _ (by omega)
    · dsimp only [jpush]
      refine e_if_eq 26 28 dX6_factHere_23 (by decide) (by decide) rfl (fun _ => ?_) (fun h => absurd h (by decide))
      refine e_aload_n (i := 0) 29 dX6_factHere_28 rfl rfl rfl ?_
      refine e_getr (j := 0) 32 fl_6_12 dX6_factHere_29 at_882 rfl rfl tp_882_0 rfl ?_
      refine e_ldcS 34 (i := 14) (by decide) rfl rfl dX6_factHere_32 rfl ?_
      refine e_callV 37 mt_yX9_spells mv_yX9_spells wd_555 (by decide) dX6_factHere_34 at_883 jc_9 rfl rfl rfl (Nat.le_of_ble_eq_true rfl) (jroom (by decide)) rfl (c_spells_16 hM hZ hI (fun w34 => ?_) (fun w34 => ?_))
      · dsimp only [jpush]
        refine e_if_eq 40 42 dX6_factHere_37 (by decide) (by decide) rfl (fun h => absurd h (by decide)) (fun _ => ?_)
        refine e_iconst 41 dX6_factHere_40 rfl ?_
        refine e_iret dX6_factHere_41 ?_
        exact h _ (by omega)
      · dsimp only [jpush]
        refine e_if_eq 40 42 dX6_factHere_37 (by decide) (by decide) rfl (fun _ => ?_) (fun h => absurd h (by decide))
        refine e_aload_n (i := 0) 43 dX6_factHere_42 rfl rfl rfl ?_
        refine e_getr (j := 0) 46 fl_6_12 dX6_factHere_43 at_882 rfl rfl tp_882_0 rfl ?_
        refine e_ldcS 48 (i := 15) (by decide) rfl rfl dX6_factHere_46 rfl ?_
        refine e_callV 51 mt_yX9_spells mv_yX9_spells wd_555 (by decide) dX6_factHere_48 at_883 jc_9 rfl rfl rfl (Nat.le_of_ble_eq_true rfl) (jroom (by decide)) rfl (c_spells_17 hM hZ hI (fun w48 => ?_) (fun w48 => ?_))
        · dsimp only [jpush]
          refine e_if_eq 54 56 dX6_factHere_51 (by decide) (by decide) rfl (fun h => absurd h (by decide)) (fun _ => ?_)
          refine e_iconst 55 dX6_factHere_54 rfl ?_
          refine e_iret dX6_factHere_55 ?_
          exact h _ (by omega)
        · dsimp only [jpush]
          refine e_if_eq 54 56 dX6_factHere_51 (by decide) (by decide) rfl (fun _ => ?_) (fun h => absurd h (by decide))
          refine e_aload_n (i := 0) 57 dX6_factHere_56 rfl rfl rfl ?_
          refine e_getr (j := 0) 60 fl_6_12 dX6_factHere_57 at_882 rfl rfl tp_882_0 rfl ?_
          refine e_ldcS 62 (i := 16) (by decide) rfl rfl dX6_factHere_60 rfl ?_
          refine e_callV 65 mt_yX9_spells mv_yX9_spells wd_555 (by decide) dX6_factHere_62 at_883 jc_9 rfl rfl rfl (Nat.le_of_ble_eq_true rfl) (jroom (by decide)) rfl (c_spells_18 hM hZ hI (fun w62 => ?_) (fun w62 => ?_))
          · dsimp only [jpush]
            refine e_if_eq 68 70 dX6_factHere_65 (by decide) (by decide) rfl (fun h => absurd h (by decide)) (fun _ => ?_)
            refine e_iconst 69 dX6_factHere_68 rfl ?_
            refine e_iret dX6_factHere_69 ?_
            exact h _ (by omega)
          · dsimp only [jpush]
            refine e_if_eq 68 70 dX6_factHere_65 (by decide) (by decide) rfl (fun _ => ?_) (fun h => absurd h (by decide))
            refine e_aload_n (i := 0) 71 dX6_factHere_70 rfl rfl rfl ?_
            refine e_getr (j := 0) 74 fl_6_12 dX6_factHere_71 at_882 rfl rfl tp_882_0 rfl ?_
            refine e_ldcS 76 (i := 17) (by decide) rfl rfl dX6_factHere_74 rfl ?_
            refine e_callV 79 mt_yX9_spells mv_yX9_spells wd_555 (by decide) dX6_factHere_76 at_883 jc_9 rfl rfl rfl (Nat.le_of_ble_eq_true rfl) (jroom (by decide)) rfl (c_spells_19 hM hZ hI (fun w76 => ?_) (fun w76 => ?_))
            · dsimp only [jpush]
              refine e_if_eq 82 86 dX6_factHere_79 (by decide) (by decide) rfl (fun h => absurd h (by decide)) (fun _ => ?_)
              refine e_iconst 83 dX6_factHere_82 rfl ?_
              refine e_goto 87 dX6_factHere_83 (by decide) ?_
              refine e_iret dX6_factHere_87 ?_
              exact h _ (by omega)
            · dsimp only [jpush]
              refine e_if_eq 82 86 dX6_factHere_79 (by decide) (by decide) rfl (fun _ => ?_) (fun h => absurd h (by decide))
              refine e_iconst 87 dX6_factHere_86 rfl ?_
              refine e_iret dX6_factHere_87 ?_
              exact h _ (by omega)

theorem k_fact {M : jM} {n : Int} (hM : CM M n) {f : Nat} (hKF : KFact M n f) (hKT : KTest M n f) : KFact M n (f + 1) := by
  intro s Z b op Q e hZ hI hK hop hm he h
  refine jCt_of mt_yX6_readFact (Nat.le_of_ble_eq_true rfl) (fun X => ?_)
  have e3 := hZ.2.2.2.1.1
  have e5 := hZ.2.2.2.1.2.1
  have eT := hZ.2.2.2.1.2.2
  have hi1 := hI.1
  have hi2 := hI.2.1
  have hn0 := hM.1
  have ew := hZ.2.2.2.2.1
  have hd0 := hI.2.2.2.2.2.1
  have hks := hK.2.1
  refine e_aload_n (i := 0) 1 dX6_readFact_0 rfl rfl rfl ?_
  refine e_geti (j := 4) 4 fl_6_36 dX6_readFact_1 at_882 (by decide) rfl rfl (fun r1 => ?_)
  refine e_if_eq 7 8 dX6_readFact_4 (by omega) (by decide) rfl (fun b4 => ?_) (fun b4 => ?_)
  · first
     | (exfalso; omega)
     | (skip
        refine e_aload_n (i := 0) 9 dX6_readFact_8 rfl rfl rfl ?_
        refine e_getr (j := 0) 12 fl_6_12 dX6_readFact_9 at_882 rfl rfl tp_882_0 rfl ?_
        refine e_ldcS 14 (i := 11) (by decide) rfl rfl dX6_readFact_12 rfl ?_
        refine e_callV 17 mt_yX9_spells mv_yX9_spells wd_555 (by decide) dX6_readFact_14 at_883 jc_9 rfl rfl rfl (Nat.le_of_ble_eq_true rfl) (jroom (by omega)) rfl (c_spells_13 hM hZ hI (fun w14 => ?_) (fun w14 => ?_))
        · dsimp only [jpush]
          first
           | (exfalso; omega)
           | (skip
              refine e_if_ne 20 32 dX6_readFact_17 (by decide) (by decide) rfl (fun _ => ?_) (fun h => absurd h (by decide))
              refine e_aload_n (i := 0) 33 dX6_readFact_32 rfl rfl rfl ?_
              refine e_iload_n (i := 1) 34 dX6_readFact_33 rfl rfl rfl ?_
              refine e_iconst 35 dX6_readFact_34 rfl ?_
              refine e_iadd 36 dX6_readFact_35 rfl ?_
              refine e_callV 39 mt_yX6_readOpened mv_yX6_readOpened wd_675 (by decide) dX6_readFact_36 at_882 jc_6 rfl rfl rfl (Nat.le_of_ble_eq_true rfl) (jroom (by omega)) rfl (k_opened (b := b) (e := e) hM hKF hKT hZ hI hK (by omega) (by omega) (by omega) (by omega) (by omega) (fun W36 hW36 hK36 => ?_))
              dsimp only [jpush]
              (try simp (disch := omega) only [jset_k, jset_j, jset_same, true_and, and_true] at W36 hW36 hK36)
              refine e_vret dX6_readFact_39 ?_
              have ep : prs (M 931) n (f + 1) 0 s = pOp (M 931) n f s := by
                rw [prs, if_pos rfl, if_neg (by omega), pOp]
                by_cases c : s.2.2.1 = 13
                · rw [if_pos c, if_pos c]
                · rw [if_neg c, if_neg c, if_pos (by omega)]
              rw [ep] at h
              exact h _ hW36 hK36)
        · dsimp only [jpush]
          first
           | (exfalso; omega)
           | (skip
              refine e_if_ne 20 32 dX6_readFact_17 (by decide) (by decide) rfl (fun h => absurd h (by decide)) (fun _ => ?_)
              refine e_aload_n (i := 0) 21 dX6_readFact_20 rfl rfl rfl ?_
              refine e_getr (j := 0) 24 fl_6_12 dX6_readFact_21 at_882 rfl rfl tp_882_0 rfl ?_
              refine e_bipush 26 dX6_readFact_24 (by decide) rfl ?_
              refine e_callV 29 mt_yX9_isSign mv_yX9_isSign wd_648 (by decide) dX6_readFact_26 at_883 jc_9 rfl rfl rfl (Nat.le_of_ble_eq_true rfl) (jroom (by omega)) rfl (c_isSign (k := 23) hM hZ hI (by omega) (fun w26 => ?_) (fun w26 => ?_))
              · dsimp only [jpush]
                first
                 | (exfalso; omega)
                 | (skip
                    refine e_if_eq 32 40 dX6_readFact_29 (by decide) (by decide) rfl (fun h => absurd h (by decide)) (fun _ => ?_)
                    refine e_aload_n (i := 0) 33 dX6_readFact_32 rfl rfl rfl ?_
                    refine e_iload_n (i := 1) 34 dX6_readFact_33 rfl rfl rfl ?_
                    refine e_iconst 35 dX6_readFact_34 rfl ?_
                    refine e_iadd 36 dX6_readFact_35 rfl ?_
                    refine e_callV 39 mt_yX6_readOpened mv_yX6_readOpened wd_675 (by decide) dX6_readFact_36 at_882 jc_6 rfl rfl rfl (Nat.le_of_ble_eq_true rfl) (jroom (by omega)) rfl (k_opened (b := b) (e := e) hM hKF hKT hZ hI hK (by omega) (by omega) (by omega) (by omega) (by omega) (fun W36 hW36 hK36 => ?_))
                    dsimp only [jpush]
                    (try simp (disch := omega) only [jset_k, jset_j, jset_same, true_and, and_true] at W36 hW36 hK36)
                    refine e_vret dX6_readFact_39 ?_
                    have ep : prs (M 931) n (f + 1) 0 s = pOp (M 931) n f s := by
                      rw [prs, if_pos rfl, if_neg (by omega), pOp]
                      by_cases c : s.2.2.1 = 13
                      · rw [if_pos c, if_pos c]
                      · rw [if_neg c, if_neg c, if_pos (by omega)]
                    rw [ep] at h
                    exact h _ hW36 hK36)
              · dsimp only [jpush]
                first
                 | (exfalso; omega)
                 | (skip
                    refine e_if_eq 32 40 dX6_readFact_29 (by decide) (by decide) rfl (fun _ => ?_) (fun h => absurd h (by decide))
                    refine e_aload_n (i := 0) 41 dX6_readFact_40 rfl rfl rfl ?_
                    refine e_callV 44 mt_yX6_factHere mv_yX6_factHere wd_683 (by decide) dX6_readFact_41 at_882 jc_6 rfl rfl rfl (Nat.le_of_ble_eq_true rfl) (jroom (by omega)) rfl (c_fhere hM hZ hI (fun rr41 w41 => ?_))
                    dsimp only [jpush]
                    refine e_istore_n (i := 2) (lsn := [(2, _), (0, _), (1, _)]) 45 dX6_readFact_44 rfl (by decide) rfl rfl ?_
                    refine e_iload_n (i := 2) 46 dX6_readFact_45 rfl rfl rfl ?_
                    refine e_iconst 47 dX6_readFact_46 rfl ?_
                    refine e_icmp_ne 50 56 dX6_readFact_47 (by omega) (by decide) (by decide) rfl (fun b47 => ?_) (fun b47 => ?_)
                    · first
                       | (exfalso; omega)
                       | (skip
                          have hk : 14 ≤ s.2.2.1 ∧ s.2.2.1 ≤ 19 := by omega
                          have er : rr41 = s.2.2.1 - 14 := by omega
                          subst er
                          refine e_aload_n (i := 0) 57 dX6_readFact_56 rfl rfl rfl ?_
                          refine e_getr (j := 0) 60 fl_6_12 dX6_readFact_57 at_882 rfl rfl tp_882_0 rfl ?_
                          refine e_callV 63 mt_yX9_step mv_yX9_step wd_615 (by decide) dX6_readFact_60 at_883 jc_9 rfl rfl rfl (Nat.le_of_ble_eq_true rfl) (jroom (by omega)) rfl (c_stp hM hZ hI (by omega) (fun W60 hW60 hO60 => ?_))
                          dsimp only [jpush]
                          (try simp (disch := omega) only [jset_k, jset_j, jset_same, true_and, and_true] at W60 hW60 hO60)
                          obtain ⟨s1, e1⟩ : ∃ z, z = pNext (M 931) n s := ⟨_, rfl⟩
                          have k1 := pc_next hM hI (by omega)
                          rw [← e1] at hW60 k1
                          have hK1 := hK.pk hO60 k1.1
                          have hI1 := k1.1.1
                          have hks1 := hK1.2.1
                          refine e_aload_n (i := 0) 64 dX6_readFact_63 rfl rfl rfl ?_
                          refine e_getr (j := 2) 67 fl_6_28 dX6_readFact_64 at_882 rfl rfl tp_882_2 rfl ?_
                          refine e_iload_n (i := 2) 68 dX6_readFact_67 rfl rfl rfl ?_
                          refine e_iload_n (i := 2) 69 dX6_readFact_68 rfl rfl rfl ?_
                          refine e_if_ne 72 76 dX6_readFact_69 (by omega) (by decide) rfl (fun b69 => ?_) (fun b69 => ?_)
                          · first
                             | (exfalso; omega)
                             | (skip
                                refine e_aload_n (i := 0) 77 dX6_readFact_76 rfl rfl rfl ?_
                                refine e_getsN 80 (i := 3) (by decide) (by decide +kernel) dX6_readFact_77 rfl ?_
                                refine e_iload_n (i := 2) 81 dX6_readFact_80 rfl rfl rfl ?_
                                refine e_tald 82 (i := 3) (by decide) dX6_readFact_81 (by omega) (by have : (jzt 3).length = 6 := rfl; omega) rfl ?_
                                refine e_getsN 85 (i := 4) (by decide) (by decide +kernel) dX6_readFact_82 rfl ?_
                                refine e_iload_n (i := 2) 86 dX6_readFact_85 rfl rfl rfl ?_
                                refine e_tald 87 (i := 4) (by decide) dX6_readFact_86 (by omega) (by have : (jzt 4).length = 6 := rfl; omega) rfl ?_
                                rw [(fac_tab hk rfl (by omega)).1, (fac_tab hk rfl (by omega)).2]
                                have hl := alo_r s.2.2.1
                                have hh := ahi_r s.2.2.1
                                have hZ := hW60
                                have hI := hI1
                                refine e_callV 90 mt_yX6_passNumber mv_yX6_passNumber wd_620 (by decide) dX6_readFact_87 at_882 jc_6 rfl rfl rfl (Nat.le_of_ble_eq_true rfl) (jroom (by omega)) rfl (c_pnum hM hZ hI (by omega) (by omega) (fun W87 r87 hW87 hO87 hr87 hv87 => ?_))
                                dsimp only [jpush]
                                (try simp (disch := omega) only [jset_k, jset_j, jset_same, true_and, and_true] at W87 r87 hW87 hO87 hr87 hv87)
                                obtain ⟨s2, e2⟩ : ∃ z, z = pAt2 (M 931) n s := ⟨_, rfl⟩
                                have g2 : pRead (M 931) n (aLo s.2.2.1) (aHi s.2.2.1) s1 = s2 := by
                                  rw [e2, pAt2, if_neg (by omega), ← e1]
                                have k2 := pc_read (lo := aLo s.2.2.1) (hi := aHi s.2.2.1) hM hI1
                                rw [g2] at hW87 hv87 k2
                                have hZ2 := hW87
                                have hI2 := k2.1
                                have hK2 := hK1.pk hO87 k2
                                have hks2 := hK2.2.1
                                refine e_callV 93 mt_yX2_add mv_yX2_add wd_679 (by decide) dX6_readFact_90 at_890 jc_2 rfl rfl rfl (Nat.le_of_ble_eq_true rfl) (jroom (by omega)) rfl (c_ladd (by omega) (by omega) (by omega) (fun W90 hA90 => ?_))
                                dsimp only [jpush]
                                (try simp (disch := omega) only [jset_k, jset_j, jset_same, true_and, and_true] at W90 hA90)
                                refine e_vret dX6_readFact_93 ?_
                                first
                                  | (exfalso; omega)
                                  | (have ep : prs (M 931) n (f + 1) 0 s = pAtom (M 931) n s := by
                                       rw [prs, if_pos rfl, if_neg (by omega), if_neg (by omega), if_neg (by omega)]
                                     have i2 := hI2.2.2.2.2.1
                                     have i1 := hI2.1
                                     have i8 := hI2.2.2.2.2.2.2.2.1
                                     rw [ep, pAtom, if_pos (by omega), ← e2] at h
                                     by_cases c : s2.2.2.2.2.1 = 0
                                     · rw [if_pos c] at h
                                       refine h _ ?_ ?_
                                       · exact (hZ2.ca hA90 : CTk M W90 n s2)
                                       · exact hK2.emit c (by omega) (by omega) (opC_f (by omega)) (by
                                         rw [if_neg (by omega), ← e1, ← hv87 c]
                                         exact hA90)
                                     · rw [if_neg c] at h
                                       exact h _ (hZ2.ca hA90) (hK2.bad c hA90)))
                          · first
                             | (exfalso; omega)
                             | (skip
                                obtain ⟨s2, e2⟩ : ∃ z, z = pAt2 (M 931) n s := ⟨_, rfl⟩
                                have g2 : s1 = s2 := by
                                  rw [e2, pAt2, if_pos (by omega), ← e1]
                                have hZ2 := hW60
                                have hI2 := hI1
                                have hK2 := hK1
                                rw [g2] at hZ2 hI2 hK2
                                refine e_iconst 73 dX6_readFact_72 rfl ?_
                                refine e_goto 90 dX6_readFact_73 (by decide) ?_
                                refine e_callV 93 mt_yX2_add mv_yX2_add wd_679 (by decide) dX6_readFact_90 at_890 jc_2 rfl rfl rfl (Nat.le_of_ble_eq_true rfl) (jroom (by omega)) rfl (c_ladd (by omega) (by omega) (by omega) (fun W90 hA90 => ?_))
                                dsimp only [jpush]
                                (try simp (disch := omega) only [jset_k, jset_j, jset_same, true_and, and_true] at W90 hA90)
                                refine e_vret dX6_readFact_93 ?_
                                first
                                  | (exfalso; omega)
                                  | (have ep : prs (M 931) n (f + 1) 0 s = pAtom (M 931) n s := by
                                       rw [prs, if_pos rfl, if_neg (by omega), if_neg (by omega), if_neg (by omega)]
                                     have i2 := hI2.2.2.2.2.1
                                     have i1 := hI2.1
                                     have i8 := hI2.2.2.2.2.2.2.2.1
                                     rw [ep, pAtom, if_pos (by omega), ← e2] at h
                                     by_cases c : s2.2.2.2.2.1 = 0
                                     · rw [if_pos c] at h
                                       refine h _ ?_ ?_
                                       · exact (hZ2.ca hA90 : CTk M W90 n s2)
                                       · exact hK2.emit c (by omega) (by omega) (opC_f (by omega)) (by
                                         rw [if_pos (by omega)]
                                         exact hA90)
                                     · rw [if_neg c] at h
                                       exact h _ (hZ2.ca hA90) (hK2.bad c hA90))))
                    · first
                       | (exfalso; omega)
                       | (skip
                          refine e_aload_n (i := 0) 51 dX6_readFact_50 rfl rfl rfl ?_
                          refine e_iconst 52 dX6_readFact_51 rfl ?_
                          refine e_callV 55 mt_yX6_refuse mv_yX6_refuse wd_611 (by decide) dX6_readFact_52 at_882 jc_6 rfl rfl rfl (Nat.le_of_ble_eq_true rfl) (jroom (by omega)) rfl (c_rfs hM hZ hI (by omega) (by omega) (fun W52 hW52 hO52 => ?_))
                          dsimp only [jpush]
                          (try simp (disch := omega) only [jset_k, jset_j, jset_same, true_and, and_true] at W52 hW52 hO52)
                          refine e_vret dX6_readFact_55 ?_
                          first
                            | (exfalso; omega)
                            | (rw [prs, if_pos rfl, if_neg (by omega), if_neg (by omega), if_neg (by omega), pAtom, if_neg (by omega)] at h
                               exact h _ hW52 (hK.pk hO52 (pk_fail (by omega) hI).1))))))
  · first
     | (exfalso; omega)
     | (skip
        refine e_vret dX6_readFact_7 ?_
        rw [prs, if_pos rfl, if_pos (by omega)] at h
        exact h _ hZ hK)

theorem kl_part {M : jM} {n : Int} (hM : CM M n) {f : Nat} (hKR : KFact M n f) (hL : KLp M n f) : KLp M n (f + 1) := by
  intro X s Z b op i Q e hZ hI hK hop hm he hi hi2 h
  have e3 := hZ.2.2.2.1.1
  have e5 := hZ.2.2.2.1.2.1
  have eT := hZ.2.2.2.1.2.2
  have hi1 := hI.1
  have hi2 := hI.2.1
  have hn0 := hM.1
  have ew := hZ.2.2.2.2.1
  have hd0 := hI.2.2.2.2.2.1
  have hks := hK.2.1
  have ex : ¬ (s.2.2.2.2.1 = 0 ∧ s.2.2.1 = 12) → prs (M 931) n (f + 1) 1 s = s := fun c => by
    rw [prs, if_neg (by decide), if_pos rfl, if_neg c]
  refine e_iload_n (i := 2) 8 dX6_readPart_7 rfl rfl rfl ?_
  refine e_sipush 11 dX6_readPart_8 (by decide) rfl ?_
  refine e_icmp_ge 14 61 dX6_readPart_11 (by omega) (by decide) (by decide) rfl (fun b11 => ?_) (fun b11 => ?_)
  · first
     | (exfalso; omega)
     | (skip
        refine e_vret dX6_readPart_61 ?_
        rw [ex (fun c => by have := hi c.1; omega)] at h
        exact h _ hZ hK)
  · first
     | (exfalso; omega)
     | (skip
        refine e_aload_n (i := 0) 15 dX6_readPart_14 rfl rfl rfl ?_
        refine e_geti (j := 4) 18 fl_6_36 dX6_readPart_15 at_882 (by decide) rfl rfl (fun r15 => ?_)
        refine e_if_ne 21 61 dX6_readPart_18 (by omega) (by decide) rfl (fun b18 => ?_) (fun b18 => ?_)
        · first
           | (exfalso; omega)
           | (skip
              refine e_vret dX6_readPart_61 ?_
              rw [ex (fun c => by have := hi c.1; omega)] at h
              exact h _ hZ hK)
        · first
           | (exfalso; omega)
           | (skip
              refine e_aload_n (i := 0) 22 dX6_readPart_21 rfl rfl rfl ?_
              refine e_getr (j := 0) 25 fl_6_12 dX6_readPart_22 at_882 rfl rfl tp_882_0 rfl ?_
              refine e_ldcS 27 (i := 18) (by decide) rfl rfl dX6_readPart_25 rfl ?_
              refine e_callV 30 mt_yX9_spells mv_yX9_spells wd_555 (by decide) dX6_readPart_27 at_883 jc_9 rfl rfl rfl (Nat.le_of_ble_eq_true rfl) (jroom (by omega)) rfl (c_spells_12 hM hZ hI (fun w27 => ?_) (fun w27 => ?_))
              · dsimp only [jpush]
                first
                 | (exfalso; omega)
                 | (skip
                    refine e_if_eq 33 61 dX6_readPart_30 (by decide) (by decide) rfl (fun h => absurd h (by decide)) (fun _ => ?_)
                    refine e_aload_n (i := 0) 34 dX6_readPart_33 rfl rfl rfl ?_
                    refine e_getr (j := 0) 37 fl_6_12 dX6_readPart_34 at_882 rfl rfl tp_882_0 rfl ?_
                    refine e_callV 40 mt_yX9_step mv_yX9_step wd_615 (by decide) dX6_readPart_37 at_883 jc_9 rfl rfl rfl (Nat.le_of_ble_eq_true rfl) (jroom (by omega)) rfl (c_stp hM hZ hI (by omega) (fun W37 hW37 hO37 => ?_))
                    dsimp only [jpush]
                    (try simp (disch := omega) only [jset_k, jset_j, jset_same, true_and, and_true] at W37 hW37 hO37)
                    obtain ⟨s1, e1⟩ : ∃ z, z = pNext (M 931) n s := ⟨_, rfl⟩
                    have k1 := pc_next hM hI (by omega)
                    rw [← e1] at hW37 k1
                    have hK1 := hK.pk hO37 k1.1
                    have hI1 := k1.1.1
                    have hZ1 := hW37
                    have l1 := k1.2
                    have q1 := k1.1.pq
                    have d1 := q1.2.2.2.2.1
                    have t1 : s1.2.2.2.2.2.2.2.1 = s.2.2.2.2.2.2.2.1 := by rw [e1]; rfl
                    refine e_aload_n (i := 0) 41 dX6_readPart_40 rfl rfl rfl ?_
                    refine e_iload_n (i := 1) 42 dX6_readPart_41 rfl rfl rfl ?_
                    refine e_callV 45 mt_yX6_readFact mv_yX6_readFact wd_670 (by decide) dX6_readPart_42 at_882 jc_6 rfl rfl rfl (Nat.le_of_ble_eq_true rfl) (jroom (by omega)) rfl (hKR s1 _ b _ _ e hZ1 hI1 hK1 (by omega) (by omega) (by omega) (fun W42 hW42 hK42 => ?_))
                    dsimp only [jpush]
                    (try simp (disch := omega) only [jset_k, jset_j, jset_same, true_and, and_true] at W42 hW42 hK42)
                    obtain ⟨s2, e2⟩ : ∃ z, z = prs (M 931) n f 0 s1 := ⟨_, rfl⟩
                    have k2 := prc_ok hM f 0 s1 hI1
                    rw [← e2] at hW42 hK42 k2
                    have hI2 := k2.1
                    have hks2 := hK42.2.1
                    have k3 := pq_em0 (k := 12) hI (q1.trans k2) (by omega) (by have a := k2.2.2.1; omega)
                    have d3 := k3.2.2.2.2.1
                    have b3 := k2.2.1
                    have b4 : (pEm 12 s2).1 = s2.1 := by
                      unfold pEm
                      split <;> rfl
                    refine e_aload_n (i := 0) 46 dX6_readPart_45 rfl rfl rfl ?_
                    refine e_getr (j := 2) 49 fl_6_28 dX6_readPart_46 at_882 rfl rfl tp_882_2 rfl ?_
                    refine e_bipush 51 dX6_readPart_49 (by decide) rfl ?_
                    refine e_iconst 52 dX6_readPart_51 rfl ?_
                    refine e_callV 55 mt_yX2_add mv_yX2_add wd_679 (by decide) dX6_readPart_52 at_890 jc_2 rfl rfl rfl (Nat.le_of_ble_eq_true rfl) (jroom (by omega)) rfl (c_ladd (by omega) (by omega) (by omega) (fun W52 hA52 => ?_))
                    dsimp only [jpush]
                    (try simp (disch := omega) only [jset_k, jset_j, jset_same, true_and, and_true] at W52 hA52)
                    refine e_iinc (lsn := [(2, _), (0, _), (1, _)]) 58 dX6_readPart_55 rfl (by decide) rfl rfl ?_
                    refine e_goto 7 dX6_readPart_58 (by decide) ?_
                    refine e_ls (ls2 := [(0, _), (1, _), (2, _)]) rfl ?_
                    refine hL X (pEm 12 s2) _ b op (i + 1) Q e (hW42.ca hA52).em k3.1 (hK42.em hI2 hn0.2 (by decide) hA52) (by omega) (by omega) (by omega) (fun _ => by have := hi (by omega); omega) (by have := hi (by omega); omega) ?_
                    rw [prs, if_neg (by decide), if_pos rfl, if_pos (by omega), ← e1, ← e2] at h
                    exact h)
              · dsimp only [jpush]
                first
                 | (exfalso; omega)
                 | (skip
                    refine e_if_eq 33 61 dX6_readPart_30 (by decide) (by decide) rfl (fun _ => ?_) (fun h => absurd h (by decide))
                    refine e_vret dX6_readPart_61 ?_
                    rw [ex (fun c => by have := hi c.1; omega)] at h
                    exact h _ hZ hK)))

theorem ks_part {M : jM} {n : Int} (hM : CM M n) {f : Nat} (hKR : KFact M n f) (hL : KLp M n f) : KPart M n (f + 1) := by
  intro s Z b op Q e hZ hI hK hop hm he h
  refine jCt_of mt_yX6_readPart (Nat.le_of_ble_eq_true rfl) (fun X => ?_)
  have e3 := hZ.2.2.2.1.1
  have e5 := hZ.2.2.2.1.2.1
  have eT := hZ.2.2.2.1.2.2
  have hi1 := hI.1
  have hi2 := hI.2.1
  have hn0 := hM.1
  have ew := hZ.2.2.2.2.1
  have hd0 := hI.2.2.2.2.2.1
  have hks := hK.2.1
  refine e_aload_n (i := 0) 1 dX6_readPart_0 rfl rfl rfl ?_
  refine e_iload_n (i := 1) 2 dX6_readPart_1 rfl rfl rfl ?_
  refine e_callV 5 mt_yX6_readFact mv_yX6_readFact wd_670 (by decide) dX6_readPart_2 at_882 jc_6 rfl rfl rfl (Nat.le_of_ble_eq_true rfl) (jroom (by omega)) rfl (hKR s _ b _ _ e hZ hI hK (by omega) (by omega) (by omega) (fun W2 hW2 hK2 => ?_))
  dsimp only [jpush]
  (try simp (disch := omega) only [jset_k, jset_j, jset_same, true_and, and_true] at W2 hW2 hK2)
  refine e_iconst 6 dX6_readPart_5 rfl ?_
  refine e_istore_n (i := 2) (lsn := [(2, _), (0, _), (1, _)]) 7 dX6_readPart_6 rfl (by decide) rfl rfl ?_
  refine e_ls (ls2 := [(0, _), (1, _), (2, _)]) rfl ?_
  have k2 := prc_ok hM f 0 s hI
  have d3 := k2.2.2.2.2.1
  have b3 := k2.2.1
  have i2 := k2.1.1
  refine hL X _ _ b op 0 Q e hW2 k2.1 hK2 (by omega) (by omega) (by omega) (fun _ => by omega) (by omega) ?_
  rw [prs, if_neg (by decide), if_neg (by decide), if_neg (by decide), if_pos rfl] at h
  exact h

theorem kl_test {M : jM} {n : Int} (hM : CM M n) {f : Nat} (hKR : KPart M n f) (hL : KLt M n f) : KLt M n (f + 1) := by
  intro X s Z b op i Q e hZ hI hK hop hm he hi hi2 h
  have e3 := hZ.2.2.2.1.1
  have e5 := hZ.2.2.2.1.2.1
  have eT := hZ.2.2.2.1.2.2
  have hi1 := hI.1
  have hi2 := hI.2.1
  have hn0 := hM.1
  have ew := hZ.2.2.2.2.1
  have hd0 := hI.2.2.2.2.2.1
  have hks := hK.2.1
  have ex : ¬ (s.2.2.2.2.1 = 0 ∧ s.2.2.1 = 11) → prs (M 931) n (f + 1) 2 s = s := fun c => by
    rw [prs, if_neg (by decide), if_neg (by decide), if_pos rfl, if_neg c]
  refine e_iload_n (i := 2) 8 dX6_readTest_7 rfl rfl rfl ?_
  refine e_sipush 11 dX6_readTest_8 (by decide) rfl ?_
  refine e_icmp_ge 14 61 dX6_readTest_11 (by omega) (by decide) (by decide) rfl (fun b11 => ?_) (fun b11 => ?_)
  · first
     | (exfalso; omega)
     | (skip
        refine e_vret dX6_readTest_61 ?_
        rw [ex (fun c => by have := hi c.1; omega)] at h
        exact h _ hZ hK)
  · first
     | (exfalso; omega)
     | (skip
        refine e_aload_n (i := 0) 15 dX6_readTest_14 rfl rfl rfl ?_
        refine e_geti (j := 4) 18 fl_6_36 dX6_readTest_15 at_882 (by decide) rfl rfl (fun r15 => ?_)
        refine e_if_ne 21 61 dX6_readTest_18 (by omega) (by decide) rfl (fun b18 => ?_) (fun b18 => ?_)
        · first
           | (exfalso; omega)
           | (skip
              refine e_vret dX6_readTest_61 ?_
              rw [ex (fun c => by have := hi c.1; omega)] at h
              exact h _ hZ hK)
        · first
           | (exfalso; omega)
           | (skip
              refine e_aload_n (i := 0) 22 dX6_readTest_21 rfl rfl rfl ?_
              refine e_getr (j := 0) 25 fl_6_12 dX6_readTest_22 at_882 rfl rfl tp_882_0 rfl ?_
              refine e_ldcS 27 (i := 19) (by decide) rfl rfl dX6_readTest_25 rfl ?_
              refine e_callV 30 mt_yX9_spells mv_yX9_spells wd_555 (by decide) dX6_readTest_27 at_883 jc_9 rfl rfl rfl (Nat.le_of_ble_eq_true rfl) (jroom (by omega)) rfl (c_spells_11 hM hZ hI (fun w27 => ?_) (fun w27 => ?_))
              · dsimp only [jpush]
                first
                 | (exfalso; omega)
                 | (skip
                    refine e_if_eq 33 61 dX6_readTest_30 (by decide) (by decide) rfl (fun h => absurd h (by decide)) (fun _ => ?_)
                    refine e_aload_n (i := 0) 34 dX6_readTest_33 rfl rfl rfl ?_
                    refine e_getr (j := 0) 37 fl_6_12 dX6_readTest_34 at_882 rfl rfl tp_882_0 rfl ?_
                    refine e_callV 40 mt_yX9_step mv_yX9_step wd_615 (by decide) dX6_readTest_37 at_883 jc_9 rfl rfl rfl (Nat.le_of_ble_eq_true rfl) (jroom (by omega)) rfl (c_stp hM hZ hI (by omega) (fun W37 hW37 hO37 => ?_))
                    dsimp only [jpush]
                    (try simp (disch := omega) only [jset_k, jset_j, jset_same, true_and, and_true] at W37 hW37 hO37)
                    obtain ⟨s1, e1⟩ : ∃ z, z = pNext (M 931) n s := ⟨_, rfl⟩
                    have k1 := pc_next hM hI (by omega)
                    rw [← e1] at hW37 k1
                    have hK1 := hK.pk hO37 k1.1
                    have hI1 := k1.1.1
                    have hZ1 := hW37
                    have l1 := k1.2
                    have q1 := k1.1.pq
                    have d1 := q1.2.2.2.2.1
                    have t1 : s1.2.2.2.2.2.2.2.1 = s.2.2.2.2.2.2.2.1 := by rw [e1]; rfl
                    refine e_aload_n (i := 0) 41 dX6_readTest_40 rfl rfl rfl ?_
                    refine e_iload_n (i := 1) 42 dX6_readTest_41 rfl rfl rfl ?_
                    refine e_callV 45 mt_yX6_readPart mv_yX6_readPart wd_666 (by decide) dX6_readTest_42 at_882 jc_6 rfl rfl rfl (Nat.le_of_ble_eq_true rfl) (jroom (by omega)) rfl (hKR s1 _ b _ _ e hZ1 hI1 hK1 (by omega) (by omega) (by omega) (fun W42 hW42 hK42 => ?_))
                    dsimp only [jpush]
                    (try simp (disch := omega) only [jset_k, jset_j, jset_same, true_and, and_true] at W42 hW42 hK42)
                    obtain ⟨s2, e2⟩ : ∃ z, z = prs (M 931) n f 3 s1 := ⟨_, rfl⟩
                    have k2 := prc_ok hM f 3 s1 hI1
                    rw [← e2] at hW42 hK42 k2
                    have hI2 := k2.1
                    have hks2 := hK42.2.1
                    have k3 := pq_em0 (k := 11) hI (q1.trans k2) (by omega) (by have a := k2.2.2.1; omega)
                    have d3 := k3.2.2.2.2.1
                    have b3 := k2.2.1
                    have b4 : (pEm 11 s2).1 = s2.1 := by
                      unfold pEm
                      split <;> rfl
                    refine e_aload_n (i := 0) 46 dX6_readTest_45 rfl rfl rfl ?_
                    refine e_getr (j := 2) 49 fl_6_28 dX6_readTest_46 at_882 rfl rfl tp_882_2 rfl ?_
                    refine e_bipush 51 dX6_readTest_49 (by decide) rfl ?_
                    refine e_iconst 52 dX6_readTest_51 rfl ?_
                    refine e_callV 55 mt_yX2_add mv_yX2_add wd_679 (by decide) dX6_readTest_52 at_890 jc_2 rfl rfl rfl (Nat.le_of_ble_eq_true rfl) (jroom (by omega)) rfl (c_ladd (by omega) (by omega) (by omega) (fun W52 hA52 => ?_))
                    dsimp only [jpush]
                    (try simp (disch := omega) only [jset_k, jset_j, jset_same, true_and, and_true] at W52 hA52)
                    refine e_iinc (lsn := [(2, _), (0, _), (1, _)]) 58 dX6_readTest_55 rfl (by decide) rfl rfl ?_
                    refine e_goto 7 dX6_readTest_58 (by decide) ?_
                    refine e_ls (ls2 := [(0, _), (1, _), (2, _)]) rfl ?_
                    refine hL X (pEm 11 s2) _ b op (i + 1) Q e (hW42.ca hA52).em k3.1 (hK42.em hI2 hn0.2 (by decide) hA52) (by omega) (by omega) (by omega) (fun _ => by have := hi (by omega); omega) (by have := hi (by omega); omega) ?_
                    rw [prs, if_neg (by decide), if_neg (by decide), if_pos rfl, if_pos (by omega), ← e1, ← e2] at h
                    exact h)
              · dsimp only [jpush]
                first
                 | (exfalso; omega)
                 | (skip
                    refine e_if_eq 33 61 dX6_readTest_30 (by decide) (by decide) rfl (fun _ => ?_) (fun h => absurd h (by decide))
                    refine e_vret dX6_readTest_61 ?_
                    rw [ex (fun c => by have := hi c.1; omega)] at h
                    exact h _ hZ hK)))

theorem ks_test {M : jM} {n : Int} (hM : CM M n) {f : Nat} (hKR : KPart M n f) (hL : KLt M n f) : KTest M n (f + 1) := by
  intro s Z b op Q e hZ hI hK hop hm he h
  refine jCt_of mt_yX6_readTest (Nat.le_of_ble_eq_true rfl) (fun X => ?_)
  have e3 := hZ.2.2.2.1.1
  have e5 := hZ.2.2.2.1.2.1
  have eT := hZ.2.2.2.1.2.2
  have hi1 := hI.1
  have hi2 := hI.2.1
  have hn0 := hM.1
  have ew := hZ.2.2.2.2.1
  have hd0 := hI.2.2.2.2.2.1
  have hks := hK.2.1
  refine e_aload_n (i := 0) 1 dX6_readTest_0 rfl rfl rfl ?_
  refine e_iload_n (i := 1) 2 dX6_readTest_1 rfl rfl rfl ?_
  refine e_callV 5 mt_yX6_readPart mv_yX6_readPart wd_666 (by decide) dX6_readTest_2 at_882 jc_6 rfl rfl rfl (Nat.le_of_ble_eq_true rfl) (jroom (by omega)) rfl (hKR s _ b _ _ e hZ hI hK (by omega) (by omega) (by omega) (fun W2 hW2 hK2 => ?_))
  dsimp only [jpush]
  (try simp (disch := omega) only [jset_k, jset_j, jset_same, true_and, and_true] at W2 hW2 hK2)
  refine e_iconst 6 dX6_readTest_5 rfl ?_
  refine e_istore_n (i := 2) (lsn := [(2, _), (0, _), (1, _)]) 7 dX6_readTest_6 rfl (by decide) rfl rfl ?_
  refine e_ls (ls2 := [(0, _), (1, _), (2, _)]) rfl ?_
  have k2 := prc_ok hM f 3 s hI
  have d3 := k2.2.2.2.2.1
  have b3 := k2.2.1
  have i2 := k2.1.1
  refine hL X _ _ b op 0 Q e hW2 k2.1 hK2 (by omega) (by omega) (by omega) (fun _ => by omega) (by omega) ?_
  rw [prs, if_neg (by decide), if_neg (by decide), if_neg (by decide), if_neg (by decide)] at h
  exact h

theorem cls_parse {M : jM} {n : Int} (hM : CM M n) : ∀ f : Nat, KFact M n f ∧ KPart M n f ∧ KTest M n f ∧ KLp M n f ∧ KLt M n f
  | 0 => ⟨fun s Z b op Q e _ hI _ _ hm => by have := hI.1; omega, fun s Z b op Q e _ hI _ _ hm => by have := hI.1; omega, fun s Z b op Q e _ hI _ _ hm => by have := hI.1; omega, fun X s Z b op i Q e _ hI _ _ hm => by have := hI.1; omega, fun X s Z b op i Q e _ hI _ _ hm => by have := hI.1; omega⟩
  | f + 1 => by
    obtain ⟨h1, h2, h3, h4, h5⟩ := cls_parse hM f
    exact ⟨k_fact hM h1 h3, ks_part hM h1 h4, ks_test hM h2 h5, kl_part hM h1 h4, kl_test hM h2 h5⟩
