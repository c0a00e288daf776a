/-! TEXTS *** the reference: what a token must be -/
theorem m_fails {M : jM} {Q : Int → jM → Prop} {s : PS} {f : Int} (hf : 1 ≤ f ∧ f ≤ 5) (h : Q 0 (put M (pFail f s))) : jCt yX12_fails cX12_fails 2 none 1 [jR 928, jI f] (put M s) Q := by
  refine jCt_of mt_yX12_fails (Nat.le_of_ble_eq_true rfl) (fun X => ?_)
  refine e_aload_n (i := 0) 1 dX12_fails_0 rfl rfl rfl ?_
  refine e_geti (j := 11) 4 fl_12_123 dX12_fails_1 at_928 (by decide) rfl rfl (fun r1 => ?_)
  simp (disch := omega) only [put_r6, put_w6, put_r7, put_w7, put_r9, put_w9, put_r10, put_w10, put_r11, put_w11, put_r12, put_w12, put_r13, put_w13, put_r14, put_w14, put_r15, put_w15, put_ra, put_r8, put_r0, put_rt, put_wa, u1, u2] at r1 ⊢
  refine e_if_eq 7 8 dX12_fails_4 (by omega) (by decide) rfl (fun b4 => ?_) (fun b4 => ?_)
  · skip
    refine e_aload_n (i := 0) 9 dX12_fails_8 rfl rfl rfl ?_
    refine e_aload_n (i := 0) 10 dX12_fails_9 rfl rfl rfl ?_
    refine e_geti (j := 9) 13 fl_12_107 dX12_fails_10 at_928 (by decide) rfl rfl (fun r10 => ?_)
    simp (disch := omega) only [put_r6, put_w6, put_r7, put_w7, put_r9, put_w9, put_r10, put_w10, put_r11, put_w11, put_r12, put_w12, put_r13, put_w13, put_r14, put_w14, put_r15, put_w15, put_ra, put_r8, put_r0, put_rt, put_wa, u1, u2] at r10 ⊢
    refine e_bipush 15 dX12_fails_13 (by decide) rfl ?_
    refine e_icmp_ne 18 22 dX12_fails_15 (by omega) (by decide) (by decide) rfl (fun b15 => ?_) (fun b15 => ?_)
    · skip
      refine e_iload_n (i := 1) 23 dX12_fails_22 rfl rfl rfl ?_
      refine e_puti (j := 11) 26 fl_12_123 dX12_fails_23 at_928 rfl rfl rfl (by omega) rfl ?_
      refine e_aload_n (i := 0) 27 dX12_fails_26 rfl rfl rfl ?_
      refine e_aload_n (i := 0) 28 dX12_fails_27 rfl rfl rfl ?_
      refine e_geti (j := 6) 31 fl_12_97 dX12_fails_28 at_928 (by decide) rfl rfl (fun r28 => ?_)
      simp (disch := omega) only [put_r6, put_w6, put_r7, put_w7, put_r9, put_w9, put_r10, put_w10, put_r11, put_w11, put_r12, put_w12, put_r13, put_w13, put_r14, put_w14, put_r15, put_w15, put_ra, put_r8, put_r0, put_rt, put_wa, u1, u2] at r28 ⊢
      refine e_puti (j := 12) 34 fl_12_126 dX12_fails_31 at_928 rfl rfl rfl (by omega) rfl ?_
      refine e_vret dX12_fails_34 ?_
      rw [pFail, if_neg (by omega), if_neg (by omega)] at h
      (try simp (disch := omega) only [put_r6, put_w6, put_r7, put_w7, put_r9, put_w9, put_r10, put_w10, put_r11, put_w11, put_r12, put_w12, put_r13, put_w13, put_r14, put_w14, put_r15, put_w15, put_ra, put_r8, put_r0, put_rt, put_wa, u1, u2])
      exact h
    · skip
      refine e_iconst 19 dX12_fails_18 rfl ?_
      refine e_goto 23 dX12_fails_19 (by decide) ?_
      refine e_puti (j := 11) 26 fl_12_123 dX12_fails_23 at_928 rfl rfl rfl (by decide) rfl ?_
      refine e_aload_n (i := 0) 27 dX12_fails_26 rfl rfl rfl ?_
      refine e_aload_n (i := 0) 28 dX12_fails_27 rfl rfl rfl ?_
      refine e_geti (j := 6) 31 fl_12_97 dX12_fails_28 at_928 (by decide) rfl rfl (fun r28 => ?_)
      simp (disch := omega) only [put_r6, put_w6, put_r7, put_w7, put_r9, put_w9, put_r10, put_w10, put_r11, put_w11, put_r12, put_w12, put_r13, put_w13, put_r14, put_w14, put_r15, put_w15, put_ra, put_r8, put_r0, put_rt, put_wa, u1, u2] at r28 ⊢
      refine e_puti (j := 12) 34 fl_12_126 dX12_fails_31 at_928 rfl rfl rfl (by omega) rfl ?_
      refine e_vret dX12_fails_34 ?_
      rw [pFail, if_neg (by omega), if_pos (by omega)] at h
      (try simp (disch := omega) only [put_r6, put_w6, put_r7, put_w7, put_r9, put_w9, put_r10, put_w10, put_r11, put_w11, put_r12, put_w12, put_r13, put_w13, put_r14, put_w14, put_r15, put_w15, put_ra, put_r8, put_r0, put_rt, put_wa, u1, u2])
      exact h
  · skip
    refine e_vret dX12_fails_7 ?_
    rw [pFail, if_pos (by omega)] at h
    exact h

theorem m_is {M : jM} {Q : Int → jM → Prop} {s : PS} {k : Int} (hk : 0 ≤ k ∧ k ≤ 26) (h1 : s.2.2.2.2.1 = 0 ∧ s.2.2.1 = k → Q 1 (put M s)) (h0 : ¬ (s.2.2.2.2.1 = 0 ∧ s.2.2.1 = k) → Q 0 (put M s)) : jCt yX12_is cX12_is 2 (some .boolean) 1 [jR 928, jI k] (put M s) Q := by
  refine jCt_of mt_yX12_is (Nat.le_of_ble_eq_true rfl) (fun X => ?_)
  refine e_aload_n (i := 0) 1 dX12_is_0 rfl rfl rfl ?_
  refine e_geti (j := 11) 4 fl_12_123 dX12_is_1 at_928 (by decide) rfl rfl (fun r1 => ?_)
  simp (disch := omega) only [put_r6, put_w6, put_r7, put_w7, put_r9, put_w9, put_r10, put_w10, put_r11, put_w11, put_r12, put_w12, put_r13, put_w13, put_r14, put_w14, put_r15, put_w15, put_ra, put_r8, put_r0, put_rt, put_wa, u1, u2] at r1 ⊢
  refine e_if_ne 7 19 dX12_is_4 (by omega) (by decide) rfl (fun b4 => ?_) (fun b4 => ?_)
  · skip
    refine e_iconst 20 dX12_is_19 rfl ?_
    refine e_zret dX12_is_20 (by decide) ?_
    first | exact h1 (by omega) | exact h0 (by omega)
  · skip
    refine e_aload_n (i := 0) 8 dX12_is_7 rfl rfl rfl ?_
    refine e_geti (j := 9) 11 fl_12_107 dX12_is_8 at_928 (by decide) rfl rfl (fun r8 => ?_)
    simp (disch := omega) only [put_r6, put_w6, put_r7, put_w7, put_r9, put_w9, put_r10, put_w10, put_r11, put_w11, put_r12, put_w12, put_r13, put_w13, put_r14, put_w14, put_r15, put_w15, put_ra, put_r8, put_r0, put_rt, put_wa, u1, u2] at r8 ⊢
    refine e_iload_n (i := 1) 12 dX12_is_11 rfl rfl rfl ?_
    refine e_icmp_ne 15 19 dX12_is_12 (by omega) (by omega) (by decide) rfl (fun b12 => ?_) (fun b12 => ?_)
    · skip
      refine e_iconst 20 dX12_is_19 rfl ?_
      refine e_zret dX12_is_20 (by decide) ?_
      first | exact h1 (by omega) | exact h0 (by omega)
    · skip
      refine e_iconst 16 dX12_is_15 rfl ?_
      refine e_goto 20 dX12_is_16 (by decide) ?_
      refine e_zret dX12_is_20 (by decide) ?_
      first | exact h1 (by omega) | exact h0 (by omega)

theorem m_eats {M : jM} {n : Int} {Q : Int → jM → Prop} (hT : RT M n) {s : PS} {k : Int} (hk : 0 ≤ k ∧ k ≤ 26) (hb : 0 ≤ s.2.1 ∧ s.2.1 ≤ n) (h1 : s.2.2.2.2.1 = 0 ∧ s.2.2.1 = k → Q 1 (put M (pNext (M 931) n s))) (h0 : ¬ (s.2.2.2.2.1 = 0 ∧ s.2.2.1 = k) → Q 0 (put M s)) : jCt yX12_eats cX12_eats 2 (some .boolean) 7 [jR 928, jI k] (put M s) Q := by
  refine jCt_of mt_yX12_eats (Nat.le_of_ble_eq_true rfl) (fun X => ?_)
  have hn8 := hT.1
  have hn := hT.2.1
  refine e_aload_n (i := 0) 1 dX12_eats_0 rfl rfl rfl ?_
  refine e_iload_n (i := 1) 2 dX12_eats_1 rfl rfl rfl ?_
  refine e_callV 5 mt_yX12_is mv_yX12_is wd_1418 (by decide) dX12_eats_2 at_928 jc_12 rfl rfl rfl (Nat.le_of_ble_eq_true rfl) (jroom (by decide)) rfl (m_is (by (try simp (disch := omega) only [put_r6, put_w6, put_r7, put_w7, put_r9, put_w9, put_r10, put_w10, put_r11, put_w11, put_r12, put_w12, put_r13, put_w13, put_r14, put_w14, put_r15, put_w15, put_ra, put_r8, put_r0, put_rt, put_wa, u1, u2, hn8]); omega) (fun w2 => ?_) (fun w2 => ?_))
  · dsimp only [jpush]
    (try simp (disch := omega) only [put_r6, put_w6, put_r7, put_w7, put_r9, put_w9, put_r10, put_w10, put_r11, put_w11, put_r12, put_w12, put_r13, put_w13, put_r14, put_w14, put_r15, put_w15, put_ra, put_r8, put_r0, put_rt, put_wa, u1, u2, hn8] at w2)
    (try simp (disch := omega) only [put_r6, put_w6, put_r7, put_w7, put_r9, put_w9, put_r10, put_w10, put_r11, put_w11, put_r12, put_w12, put_r13, put_w13, put_r14, put_w14, put_r15, put_w15, put_ra, put_r8, put_r0, put_rt, put_wa, u1, u2, hn8])
    refine e_if_ne 8 10 dX12_eats_5 (by decide) (by decide) rfl (fun _ => ?_) (fun h => absurd h (by decide))
    refine e_aload_n (i := 0) 11 dX12_eats_10 rfl rfl rfl ?_
    refine e_callV 14 mt_yX12_next mv_yX12_next wd_1393 (by decide) dX12_eats_11 at_928 jc_12 rfl rfl rfl (Nat.le_of_ble_eq_true rfl) (jroom (by decide)) rfl (m_next hT (by (try simp (disch := omega) only [put_r6, put_w6, put_r7, put_w7, put_r9, put_w9, put_r10, put_w10, put_r11, put_w11, put_r12, put_w12, put_r13, put_w13, put_r14, put_w14, put_r15, put_w15, put_ra, put_r8, put_r0, put_rt, put_wa, u1, u2, hn8]); omega) ?_)
    dsimp only [jpush]
    (try simp (disch := omega) only [put_r6, put_w6, put_r7, put_w7, put_r9, put_w9, put_r10, put_w10, put_r11, put_w11, put_r12, put_w12, put_r13, put_w13, put_r14, put_w14, put_r15, put_w15, put_ra, put_r8, put_r0, put_rt, put_wa, u1, u2, hn8])
    refine e_iconst 15 dX12_eats_14 rfl ?_
    refine e_zret dX12_eats_15 (by decide) ?_
    first | exact h1 (by omega) | exact h0 (by omega)
  · dsimp only [jpush]
    (try simp (disch := omega) only [put_r6, put_w6, put_r7, put_w7, put_r9, put_w9, put_r10, put_w10, put_r11, put_w11, put_r12, put_w12, put_r13, put_w13, put_r14, put_w14, put_r15, put_w15, put_ra, put_r8, put_r0, put_rt, put_wa, u1, u2, hn8] at w2)
    (try simp (disch := omega) only [put_r6, put_w6, put_r7, put_w7, put_r9, put_w9, put_r10, put_w10, put_r11, put_w11, put_r12, put_w12, put_r13, put_w13, put_r14, put_w14, put_r15, put_w15, put_ra, put_r8, put_r0, put_rt, put_wa, u1, u2, hn8])
    refine e_if_ne 8 10 dX12_eats_5 (by decide) (by decide) rfl (fun h => absurd h (by decide)) (fun _ => ?_)
    refine e_iconst 9 dX12_eats_8 rfl ?_
    refine e_zret dX12_eats_9 (by decide) ?_
    first | exact h1 (by omega) | exact h0 (by omega)

theorem m_musts {M : jM} {n : Int} {Q : Int → jM → Prop} (hT : RT M n) {s : PS} {k : Int} (hk : 0 ≤ k ∧ k ≤ 26) (hb : 0 ≤ s.2.1 ∧ s.2.1 ≤ n) (h : Q 0 (put M (pMust (M 931) n k s))) : jCt yX12_musts cX12_musts 2 none 8 [jR 928, jI k] (put M s) Q := by
  refine jCt_of mt_yX12_musts (Nat.le_of_ble_eq_true rfl) (fun X => ?_)
  have hn8 := hT.1
  have hn := hT.2.1
  refine e_aload_n (i := 0) 1 dX12_musts_0 rfl rfl rfl ?_
  refine e_iload_n (i := 1) 2 dX12_musts_1 rfl rfl rfl ?_
  refine e_callV 5 mt_yX12_eats mv_yX12_eats wd_1438 (by decide) dX12_musts_2 at_928 jc_12 rfl rfl rfl (Nat.le_of_ble_eq_true rfl) (jroom (by decide)) rfl (m_eats hT (by (try simp (disch := omega) only [put_r6, put_w6, put_r7, put_w7, put_r9, put_w9, put_r10, put_w10, put_r11, put_w11, put_r12, put_w12, put_r13, put_w13, put_r14, put_w14, put_r15, put_w15, put_ra, put_r8, put_r0, put_rt, put_wa, u1, u2, hn8]); omega) (by (try simp (disch := omega) only [put_r6, put_w6, put_r7, put_w7, put_r9, put_w9, put_r10, put_w10, put_r11, put_w11, put_r12, put_w12, put_r13, put_w13, put_r14, put_w14, put_r15, put_w15, put_ra, put_r8, put_r0, put_rt, put_wa, u1, u2, hn8]); omega) (fun w2 => ?_) (fun w2 => ?_))
  · dsimp only [jpush]
    (try simp (disch := omega) only [put_r6, put_w6, put_r7, put_w7, put_r9, put_w9, put_r10, put_w10, put_r11, put_w11, put_r12, put_w12, put_r13, put_w13, put_r14, put_w14, put_r15, put_w15, put_ra, put_r8, put_r0, put_rt, put_wa, u1, u2, hn8] at w2)
    (try simp (disch := omega) only [put_r6, put_w6, put_r7, put_w7, put_r9, put_w9, put_r10, put_w10, put_r11, put_w11, put_r12, put_w12, put_r13, put_w13, put_r14, put_w14, put_r15, put_w15, put_ra, put_r8, put_r0, put_rt, put_wa, u1, u2, hn8])
    refine e_if_ne 8 13 dX12_musts_5 (by decide) (by decide) rfl (fun _ => ?_) (fun h => absurd h (by decide))
    refine e_vret dX12_musts_13 ?_
    first
      | (rw [pMust, if_pos (by omega)] at h
         exact h)
      | (rw [pMust, if_neg (by omega)] at h
         exact h)
  · dsimp only [jpush]
    (try simp (disch := omega) only [put_r6, put_w6, put_r7, put_w7, put_r9, put_w9, put_r10, put_w10, put_r11, put_w11, put_r12, put_w12, put_r13, put_w13, put_r14, put_w14, put_r15, put_w15, put_ra, put_r8, put_r0, put_rt, put_wa, u1, u2, hn8] at w2)
    (try simp (disch := omega) only [put_r6, put_w6, put_r7, put_w7, put_r9, put_w9, put_r10, put_w10, put_r11, put_w11, put_r12, put_w12, put_r13, put_w13, put_r14, put_w14, put_r15, put_w15, put_ra, put_r8, put_r0, put_rt, put_wa, u1, u2, hn8])
    refine e_if_ne 8 13 dX12_musts_5 (by decide) (by decide) rfl (fun h => absurd h (by decide)) (fun _ => ?_)
    refine e_aload_n (i := 0) 9 dX12_musts_8 rfl rfl rfl ?_
    refine e_iconst 10 dX12_musts_9 rfl ?_
    refine e_callV 13 mt_yX12_fails mv_yX12_fails wd_1426 (by decide) dX12_musts_10 at_928 jc_12 rfl rfl rfl (Nat.le_of_ble_eq_true rfl) (jroom (by decide)) rfl (m_fails (by (try simp (disch := omega) only [put_r6, put_w6, put_r7, put_w7, put_r9, put_w9, put_r10, put_w10, put_r11, put_w11, put_r12, put_w12, put_r13, put_w13, put_r14, put_w14, put_r15, put_w15, put_ra, put_r8, put_r0, put_rt, put_wa, u1, u2, hn8]); omega) ?_)
    dsimp only [jpush]
    (try simp (disch := omega) only [put_r6, put_w6, put_r7, put_w7, put_r9, put_w9, put_r10, put_w10, put_r11, put_w11, put_r12, put_w12, put_r13, put_w13, put_r14, put_w14, put_r15, put_w15, put_ra, put_r8, put_r0, put_rt, put_wa, u1, u2, hn8])
    refine e_vret dX12_musts_13 ?_
    first
      | (rw [pMust, if_pos (by omega)] at h
         exact h)
      | (rw [pMust, if_neg (by omega)] at h
         exact h)

theorem pRd1_v {lo hi : Int} {s : PS} : (pRd1 lo hi s).2.2.2.1 = s.2.2.2.1 ∧ (pRd1 lo hi s).2.1 = s.2.1 := by
  unfold pRd1 pFail
  split <;> split <;> (try split) <;> exact ⟨rfl, rfl⟩
theorem m_reads {M : jM} {n : Int} {Q : Int → jM → Prop} (hT : RT M n) {s : PS} {lo hi : Int} (hlo : -2147483648 ≤ lo ∧ lo ≤ 2147483647) (hhi : -2147483648 ≤ hi ∧ hi ≤ 2147483647) (hb : 0 ≤ s.2.1 ∧ s.2.1 ≤ n) (h : Q s.2.2.2.1 (put M (pRead (M 931) n lo hi s))) : jCt yX12_reads cX12_reads 4 (some .int) 7 [jR 928, jI lo, jI hi] (put M s) Q := by
  refine jCt_of mt_yX12_reads (Nat.le_of_ble_eq_true rfl) (fun X => ?_)
  have hn8 := hT.1
  have hn := hT.2.1
  have hRd : ∀ q : PS, q = pRd1 lo hi s → jE X yX12_reads cX12_reads 4 (some .int) 7 Q (put M q) 37 [(0, jR 928), (1, jI lo), (2, jI hi)] [] := fun q hq => by
    have e := pRd1_v (lo := lo) (hi := hi) (s := s)
    unfold pRead at h
    rw [← hq] at e h
    refine e_aload_n (i := 0) 38 dX12_reads_37 rfl rfl rfl ?_
    refine e_geti (j := 10) 41 fl_12_120 dX12_reads_38 at_928 (by decide) rfl rfl (fun r38 => ?_)
    simp (disch := omega) only [put_r6, put_w6, put_r7, put_w7, put_r9, put_w9, put_r10, put_w10, put_r11, put_w11, put_r12, put_w12, put_r13, put_w13, put_r14, put_w14, put_r15, put_w15, put_ra, put_r8, put_r0, put_rt, put_wa, u1, u2, hn8] at r38 ⊢
    refine e_istore_n (i := 3) (lsn := [(3, _), (0, _), (1, _), (2, _)]) 42 dX12_reads_41 rfl (by decide) rfl rfl ?_
    refine e_aload_n (i := 0) 43 dX12_reads_42 rfl rfl rfl ?_
    refine e_geti (j := 11) 46 fl_12_123 dX12_reads_43 at_928 (by decide) rfl rfl (fun r43 => ?_)
    simp (disch := omega) only [put_r6, put_w6, put_r7, put_w7, put_r9, put_w9, put_r10, put_w10, put_r11, put_w11, put_r12, put_w12, put_r13, put_w13, put_r14, put_w14, put_r15, put_w15, put_ra, put_r8, put_r0, put_rt, put_wa, u1, u2, hn8] at r43 ⊢
    refine e_if_ne 49 53 dX12_reads_46 (by omega) (by decide) rfl (fun b46 => ?_) (fun b46 => ?_)
    · skip
      refine e_iload_n (i := 3) 54 dX12_reads_53 rfl rfl rfl ?_
      refine e_iret dX12_reads_54 ?_
      rw [if_neg (by omega), ← e.1] at h
      exact h
    · skip
      refine e_aload_n (i := 0) 50 dX12_reads_49 rfl rfl rfl ?_
      refine e_callV 53 mt_yX12_next mv_yX12_next wd_1393 (by decide) dX12_reads_50 at_928 jc_12 rfl rfl rfl (Nat.le_of_ble_eq_true rfl) (jroom (by decide)) rfl (m_next hT (by (try simp (disch := omega) only [put_r6, put_w6, put_r7, put_w7, put_r9, put_w9, put_r10, put_w10, put_r11, put_w11, put_r12, put_w12, put_r13, put_w13, put_r14, put_w14, put_r15, put_w15, put_ra, put_r8, put_r0, put_rt, put_wa, u1, u2, hn8]); omega) ?_)
      dsimp only [jpush]
      (try simp (disch := omega) only [put_r6, put_w6, put_r7, put_w7, put_r9, put_w9, put_r10, put_w10, put_r11, put_w11, put_r12, put_w12, put_r13, put_w13, put_r14, put_w14, put_r15, put_w15, put_ra, put_r8, put_r0, put_rt, put_wa, u1, u2, hn8])
      refine e_iload_n (i := 3) 54 dX12_reads_53 rfl rfl rfl ?_
      refine e_iret dX12_reads_54 ?_
      rw [if_pos (by omega), ← e.1] at h
      exact h
  refine e_aload_n (i := 0) 1 dX12_reads_0 rfl rfl rfl ?_
  refine e_bipush 3 dX12_reads_1 (by decide) rfl ?_
  refine e_callV 6 mt_yX12_is mv_yX12_is wd_1418 (by decide) dX12_reads_3 at_928 jc_12 rfl rfl rfl (Nat.le_of_ble_eq_true rfl) (jroom (by decide)) rfl (m_is (by (try simp (disch := omega) only [put_r6, put_w6, put_r7, put_w7, put_r9, put_w9, put_r10, put_w10, put_r11, put_w11, put_r12, put_w12, put_r13, put_w13, put_r14, put_w14, put_r15, put_w15, put_ra, put_r8, put_r0, put_rt, put_wa, u1, u2, hn8]); omega) (fun w3 => ?_) (fun w3 => ?_))
  · dsimp only [jpush]
    (try simp (disch := omega) only [put_r6, put_w6, put_r7, put_w7, put_r9, put_w9, put_r10, put_w10, put_r11, put_w11, put_r12, put_w12, put_r13, put_w13, put_r14, put_w14, put_r15, put_w15, put_ra, put_r8, put_r0, put_rt, put_wa, u1, u2, hn8] at w3)
    (try simp (disch := omega) only [put_r6, put_w6, put_r7, put_w7, put_r9, put_w9, put_r10, put_w10, put_r11, put_w11, put_r12, put_w12, put_r13, put_w13, put_r14, put_w14, put_r15, put_w15, put_ra, put_r8, put_r0, put_rt, put_wa, u1, u2, hn8])
    refine e_if_ne 9 17 dX12_reads_6 (by decide) (by decide) rfl (fun _ => ?_) (fun h => absurd h (by decide))
    refine e_aload_n (i := 0) 18 dX12_reads_17 rfl rfl rfl ?_
    refine e_geti (j := 10) 21 fl_12_120 dX12_reads_18 at_928 (by decide) rfl rfl (fun r18 => ?_)
    simp (disch := omega) only [put_r6, put_w6, put_r7, put_w7, put_r9, put_w9, put_r10, put_w10, put_r11, put_w11, put_r12, put_w12, put_r13, put_w13, put_r14, put_w14, put_r15, put_w15, put_ra, put_r8, put_r0, put_rt, put_wa, u1, u2, hn8] at r18 ⊢
    refine e_i2l 22 dX12_reads_21 (by omega) rfl ?_
    refine e_iload_n (i := 1) 23 dX12_reads_22 rfl rfl rfl ?_
    refine e_i2l 24 dX12_reads_23 (by omega) rfl ?_
    refine e_iload_n (i := 2) 25 dX12_reads_24 rfl rfl rfl ?_
    refine e_i2l 26 dX12_reads_25 (by omega) rfl ?_
    have hb8 := r18
    refine e_callS 29 mt_yX12_within ms_yX12_within wd_1390 (by decide) dX12_reads_26 rfl rfl (Nat.le_of_ble_eq_true rfl) (jroom (by decide)) rfl (m_within (by (try simp (disch := omega) only [put_r6, put_w6, put_r7, put_w7, put_r9, put_w9, put_r10, put_w10, put_r11, put_w11, put_r12, put_w12, put_r13, put_w13, put_r14, put_w14, put_r15, put_w15, put_ra, put_r8, put_r0, put_rt, put_wa, u1, u2, hn8]); omega) (by (try simp (disch := omega) only [put_r6, put_w6, put_r7, put_w7, put_r9, put_w9, put_r10, put_w10, put_r11, put_w11, put_r12, put_w12, put_r13, put_w13, put_r14, put_w14, put_r15, put_w15, put_ra, put_r8, put_r0, put_rt, put_wa, u1, u2, hn8]); omega) (by (try simp (disch := omega) only [put_r6, put_w6, put_r7, put_w7, put_r9, put_w9, put_r10, put_w10, put_r11, put_w11, put_r12, put_w12, put_r13, put_w13, put_r14, put_w14, put_r15, put_w15, put_ra, put_r8, put_r0, put_rt, put_wa, u1, u2, hn8]); omega) (fun w26 => ?_) (fun w26 => ?_))
    · dsimp only [jpush]
      (try simp (disch := omega) only [put_r6, put_w6, put_r7, put_w7, put_r9, put_w9, put_r10, put_w10, put_r11, put_w11, put_r12, put_w12, put_r13, put_w13, put_r14, put_w14, put_r15, put_w15, put_ra, put_r8, put_r0, put_rt, put_wa, u1, u2, hn8] at w26)
      (try simp (disch := omega) only [put_r6, put_w6, put_r7, put_w7, put_r9, put_w9, put_r10, put_w10, put_r11, put_w11, put_r12, put_w12, put_r13, put_w13, put_r14, put_w14, put_r15, put_w15, put_ra, put_r8, put_r0, put_rt, put_wa, u1, u2, hn8])
      refine e_if_ne 32 37 dX12_reads_29 (by decide) (by decide) rfl (fun _ => ?_) (fun h => absurd h (by decide))
      refine hRd _ ?_
      unfold pRd1
      rw [if_neg (fun z => z (by omega)), if_neg (fun z => z (by omega))]
    · dsimp only [jpush]
      (try simp (disch := omega) only [put_r6, put_w6, put_r7, put_w7, put_r9, put_w9, put_r10, put_w10, put_r11, put_w11, put_r12, put_w12, put_r13, put_w13, put_r14, put_w14, put_r15, put_w15, put_ra, put_r8, put_r0, put_rt, put_wa, u1, u2, hn8] at w26)
      (try simp (disch := omega) only [put_r6, put_w6, put_r7, put_w7, put_r9, put_w9, put_r10, put_w10, put_r11, put_w11, put_r12, put_w12, put_r13, put_w13, put_r14, put_w14, put_r15, put_w15, put_ra, put_r8, put_r0, put_rt, put_wa, u1, u2, hn8])
      refine e_if_ne 32 37 dX12_reads_29 (by decide) (by decide) rfl (fun h => absurd h (by decide)) (fun _ => ?_)
      refine e_aload_n (i := 0) 33 dX12_reads_32 rfl rfl rfl ?_
      refine e_iconst 34 dX12_reads_33 rfl ?_
      refine e_callV 37 mt_yX12_fails mv_yX12_fails wd_1426 (by decide) dX12_reads_34 at_928 jc_12 rfl rfl rfl (Nat.le_of_ble_eq_true rfl) (jroom (by decide)) rfl (m_fails (by (try simp (disch := omega) only [put_r6, put_w6, put_r7, put_w7, put_r9, put_w9, put_r10, put_w10, put_r11, put_w11, put_r12, put_w12, put_r13, put_w13, put_r14, put_w14, put_r15, put_w15, put_ra, put_r8, put_r0, put_rt, put_wa, u1, u2, hn8]); omega) ?_)
      dsimp only [jpush]
      (try simp (disch := omega) only [put_r6, put_w6, put_r7, put_w7, put_r9, put_w9, put_r10, put_w10, put_r11, put_w11, put_r12, put_w12, put_r13, put_w13, put_r14, put_w14, put_r15, put_w15, put_ra, put_r8, put_r0, put_rt, put_wa, u1, u2, hn8])
      refine hRd _ ?_
      unfold pRd1
      rw [if_neg (fun z => z (by omega)), if_pos (by omega)]
  · dsimp only [jpush]
    (try simp (disch := omega) only [put_r6, put_w6, put_r7, put_w7, put_r9, put_w9, put_r10, put_w10, put_r11, put_w11, put_r12, put_w12, put_r13, put_w13, put_r14, put_w14, put_r15, put_w15, put_ra, put_r8, put_r0, put_rt, put_wa, u1, u2, hn8] at w3)
    (try simp (disch := omega) only [put_r6, put_w6, put_r7, put_w7, put_r9, put_w9, put_r10, put_w10, put_r11, put_w11, put_r12, put_w12, put_r13, put_w13, put_r14, put_w14, put_r15, put_w15, put_ra, put_r8, put_r0, put_rt, put_wa, u1, u2, hn8])
    refine e_if_ne 9 17 dX12_reads_6 (by decide) (by decide) rfl (fun h => absurd h (by decide)) (fun _ => ?_)
    refine e_aload_n (i := 0) 10 dX12_reads_9 rfl rfl rfl ?_
    refine e_iconst 11 dX12_reads_10 rfl ?_
    refine e_callV 14 mt_yX12_fails mv_yX12_fails wd_1426 (by decide) dX12_reads_11 at_928 jc_12 rfl rfl rfl (Nat.le_of_ble_eq_true rfl) (jroom (by decide)) rfl (m_fails (by (try simp (disch := omega) only [put_r6, put_w6, put_r7, put_w7, put_r9, put_w9, put_r10, put_w10, put_r11, put_w11, put_r12, put_w12, put_r13, put_w13, put_r14, put_w14, put_r15, put_w15, put_ra, put_r8, put_r0, put_rt, put_wa, u1, u2, hn8]); omega) ?_)
    dsimp only [jpush]
    (try simp (disch := omega) only [put_r6, put_w6, put_r7, put_w7, put_r9, put_w9, put_r10, put_w10, put_r11, put_w11, put_r12, put_w12, put_r13, put_w13, put_r14, put_w14, put_r15, put_w15, put_ra, put_r8, put_r0, put_rt, put_wa, u1, u2, hn8])
    refine e_goto 37 dX12_reads_14 (by decide) ?_
    refine hRd _ ?_
    unfold pRd1
    rw [if_pos (by omega)]

