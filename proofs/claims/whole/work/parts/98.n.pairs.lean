/-! TEXTS *** the reference: the next token, and what it must be -/
theorem tNum_in {t : Int → Int} {p k : Int} (h : ∀ i : Int, p ≤ i → i < p + k → 0 ≤ t i ∧ t i ≤ 255) : -10000 ≤ tNum t p k ∧ tNum t p k ≤ 30000 := by
  by_cases h0 : k ≤ 0
  · rw [tNum, if_pos h0]
    omega
  · have a := h p (by omega) (by omega)
    by_cases h1 : k = 1
    · rw [tNum, if_neg h0, if_pos h1]
      omega
    · have b := h (p + 1) (by omega) (by omega)
      by_cases h2 : k = 2
      · rw [tNum, if_neg h0, if_neg h1, if_pos h2]
        omega
      · have c := h (p + 2) (by omega) (by omega)
        rw [tNum, if_neg h0, if_neg h1, if_neg h2]
        omega
theorem ln_b {X : jX} {M : jM} {n : Int} {Q : Int → jM → Prop} (hT : RT M n) {y : Int × Int × Int × Int × Int × Int × Int × Int × (Int → Int)} : ∀ (f : Nat) (q : Int), 0 ≤ q → q + f = n → jE X yX12_next cX12_next 1 none 6 Q (put M (tBl (M 931) f q, y)) 47 [(0, jR 928)] [] → jE X yX12_next cX12_next 1 none 6 Q (put M (q, y)) 8 [(0, jR 928)] [] := by
  intro f
  induction f with
  | zero =>
    intro q q0 hq h
    rw [tBl] at h
    have hn8 := hT.1
    have hn := hT.2.1
    refine e_aload_n (i := 0) 9 dX12_next_8 rfl rfl rfl ?_
    refine e_aload_n (i := 0) 10 dX12_next_9 rfl rfl rfl ?_
    refine e_geti (j := 6) 13 fl_12_97 dX12_next_10 at_928 (by decide) rfl rfl (fun r10 => ?_)
    simp (disch := omega) only [put_r6, put_w6, put_r7, put_w7, put_r9, put_w9, put_r10, put_w10, put_r11, put_w11, put_r12, put_w12, put_r13, put_w13, put_r14, put_w14, put_r15, put_w15, put_ra, put_r8, put_r0, put_rt, put_wa, u1, u2, hn8] at r10 ⊢
    refine e_callV 16 mt_yX12_see mv_yX12_see wd_1397 (by decide) dX12_next_13 at_928 jc_12 rfl rfl rfl (Nat.le_of_ble_eq_true rfl) (jroom (by decide)) rfl (m_see hT (by (try simp (disch := omega) only [put_r6, put_w6, put_r7, put_w7, put_r9, put_w9, put_r10, put_w10, put_r11, put_w11, put_r12, put_w12, put_r13, put_w13, put_r14, put_w14, put_r15, put_w15, put_ra, put_r8, put_r0, put_rt, put_wa, u1, u2, hn8]); omega) (fun w13 => ?_) (fun w13 => ?_))
    · dsimp only [jpush]
      (try simp (disch := omega) only [put_r6, put_w6, put_r7, put_w7, put_r9, put_w9, put_r10, put_w10, put_r11, put_w11, put_r12, put_w12, put_r13, put_w13, put_r14, put_w14, put_r15, put_w15, put_ra, put_r8, put_r0, put_rt, put_wa, u1, u2, hn8] at w13)
      (try simp (disch := omega) only [put_r6, put_w6, put_r7, put_w7, put_r9, put_w9, put_r10, put_w10, put_r11, put_w11, put_r12, put_w12, put_r13, put_w13, put_r14, put_w14, put_r15, put_w15, put_ra, put_r8, put_r0, put_rt, put_wa, u1, u2, hn8])
      first
       | (exfalso; omega)
       | (skip
          refine e_bipush 18 dX12_next_16 (by decide) rfl ?_
          refine e_icmp_eq 21 34 dX12_next_18 (by omega) (by decide) (by decide) rfl (fun b18 => ?_) (fun b18 => ?_)
          · first
             | (exfalso; omega)
             | (skip
                refine e_aload_n (i := 0) 35 dX12_next_34 rfl rfl rfl ?_
                refine e_dup 36 dX12_next_35 rfl rfl ?_
                refine e_geti (j := 6) 39 fl_12_97 dX12_next_36 at_928 (by decide) rfl rfl (fun r36 => ?_)
                simp (disch := omega) only [put_r6, put_w6, put_r7, put_w7, put_r9, put_w9, put_r10, put_w10, put_r11, put_w11, put_r12, put_w12, put_r13, put_w13, put_r14, put_w14, put_r15, put_w15, put_ra, put_r8, put_r0, put_rt, put_wa, u1, u2, hn8] at r36 ⊢
                refine e_iconst 40 dX12_next_39 rfl ?_
                refine e_iadd 41 dX12_next_40 rfl ?_
                refine e_puti (j := 6) 44 fl_12_97 dX12_next_41 at_928 rfl rfl rfl (by omega) rfl ?_
                refine e_goto 8 dX12_next_44 (by decide) ?_
                omega)
          · first
             | (exfalso; omega)
             | (skip
                refine e_aload_n (i := 0) 22 dX12_next_21 rfl rfl rfl ?_
                refine e_aload_n (i := 0) 23 dX12_next_22 rfl rfl rfl ?_
                refine e_geti (j := 6) 26 fl_12_97 dX12_next_23 at_928 (by decide) rfl rfl (fun r23 => ?_)
                simp (disch := omega) only [put_r6, put_w6, put_r7, put_w7, put_r9, put_w9, put_r10, put_w10, put_r11, put_w11, put_r12, put_w12, put_r13, put_w13, put_r14, put_w14, put_r15, put_w15, put_ra, put_r8, put_r0, put_rt, put_wa, u1, u2, hn8] at r23 ⊢
                refine e_callV 29 mt_yX12_see mv_yX12_see wd_1397 (by decide) dX12_next_26 at_928 jc_12 rfl rfl rfl (Nat.le_of_ble_eq_true rfl) (jroom (by decide)) rfl (m_see hT (by (try simp (disch := omega) only [put_r6, put_w6, put_r7, put_w7, put_r9, put_w9, put_r10, put_w10, put_r11, put_w11, put_r12, put_w12, put_r13, put_w13, put_r14, put_w14, put_r15, put_w15, put_ra, put_r8, put_r0, put_rt, put_wa, u1, u2, hn8]); omega) (fun w26 => ?_) (fun w26 => ?_))
                · dsimp only [jpush]
                  (try simp (disch := omega) only [put_r6, put_w6, put_r7, put_w7, put_r9, put_w9, put_r10, put_w10, put_r11, put_w11, put_r12, put_w12, put_r13, put_w13, put_r14, put_w14, put_r15, put_w15, put_ra, put_r8, put_r0, put_rt, put_wa, u1, u2, hn8] at w26)
                  (try simp (disch := omega) only [put_r6, put_w6, put_r7, put_w7, put_r9, put_w9, put_r10, put_w10, put_r11, put_w11, put_r12, put_w12, put_r13, put_w13, put_r14, put_w14, put_r15, put_w15, put_ra, put_r8, put_r0, put_rt, put_wa, u1, u2, hn8])
                  first
                   | (exfalso; omega)
                   | (skip
                      refine e_bipush 31 dX12_next_29 (by decide) rfl ?_
                      refine e_icmp_ne 34 47 dX12_next_31 (by omega) (by decide) (by decide) rfl (fun b31 => ?_) (fun b31 => ?_)
                      · first
                         | (exfalso; omega)
                         | (skip
                            exact h)
                      · first
                         | (exfalso; omega)
                         | (skip
                            refine e_aload_n (i := 0) 35 dX12_next_34 rfl rfl rfl ?_
                            refine e_dup 36 dX12_next_35 rfl rfl ?_
                            refine e_geti (j := 6) 39 fl_12_97 dX12_next_36 at_928 (by decide) rfl rfl (fun r36 => ?_)
                            simp (disch := omega) only [put_r6, put_w6, put_r7, put_w7, put_r9, put_w9, put_r10, put_w10, put_r11, put_w11, put_r12, put_w12, put_r13, put_w13, put_r14, put_w14, put_r15, put_w15, put_ra, put_r8, put_r0, put_rt, put_wa, u1, u2, hn8] at r36 ⊢
                            refine e_iconst 40 dX12_next_39 rfl ?_
                            refine e_iadd 41 dX12_next_40 rfl ?_
                            refine e_puti (j := 6) 44 fl_12_97 dX12_next_41 at_928 rfl rfl rfl (by omega) rfl ?_
                            refine e_goto 8 dX12_next_44 (by decide) ?_
                            omega))
                · dsimp only [jpush]
                  (try simp (disch := omega) only [put_r6, put_w6, put_r7, put_w7, put_r9, put_w9, put_r10, put_w10, put_r11, put_w11, put_r12, put_w12, put_r13, put_w13, put_r14, put_w14, put_r15, put_w15, put_ra, put_r8, put_r0, put_rt, put_wa, u1, u2, hn8] at w26)
                  (try simp (disch := omega) only [put_r6, put_w6, put_r7, put_w7, put_r9, put_w9, put_r10, put_w10, put_r11, put_w11, put_r12, put_w12, put_r13, put_w13, put_r14, put_w14, put_r15, put_w15, put_ra, put_r8, put_r0, put_rt, put_wa, u1, u2, hn8])
                  first
                   | (exfalso; omega)
                   | (skip
                      refine e_bipush 31 dX12_next_29 (by decide) rfl ?_
                      refine e_icmp_ne 34 47 dX12_next_31 (by decide) (by decide) (by decide) rfl (fun _ => ?_) (fun h => absurd h (by decide))
                      exact h)))
    · dsimp only [jpush]
      (try simp (disch := omega) only [put_r6, put_w6, put_r7, put_w7, put_r9, put_w9, put_r10, put_w10, put_r11, put_w11, put_r12, put_w12, put_r13, put_w13, put_r14, put_w14, put_r15, put_w15, put_ra, put_r8, put_r0, put_rt, put_wa, u1, u2, hn8] at w13)
      (try simp (disch := omega) only [put_r6, put_w6, put_r7, put_w7, put_r9, put_w9, put_r10, put_w10, put_r11, put_w11, put_r12, put_w12, put_r13, put_w13, put_r14, put_w14, put_r15, put_w15, put_ra, put_r8, put_r0, put_rt, put_wa, u1, u2, hn8])
      first
       | (exfalso; omega)
       | (skip
          refine e_bipush 18 dX12_next_16 (by decide) rfl ?_
          refine e_icmp_eq 21 34 dX12_next_18 (by decide) (by decide) (by decide) rfl (fun h => absurd h (by decide)) (fun _ => ?_)
          refine e_aload_n (i := 0) 22 dX12_next_21 rfl rfl rfl ?_
          refine e_aload_n (i := 0) 23 dX12_next_22 rfl rfl rfl ?_
          refine e_geti (j := 6) 26 fl_12_97 dX12_next_23 at_928 (by decide) rfl rfl (fun r23 => ?_)
          simp (disch := omega) only [put_r6, put_w6, put_r7, put_w7, put_r9, put_w9, put_r10, put_w10, put_r11, put_w11, put_r12, put_w12, put_r13, put_w13, put_r14, put_w14, put_r15, put_w15, put_ra, put_r8, put_r0, put_rt, put_wa, u1, u2, hn8] at r23 ⊢
          refine e_callV 29 mt_yX12_see mv_yX12_see wd_1397 (by decide) dX12_next_26 at_928 jc_12 rfl rfl rfl (Nat.le_of_ble_eq_true rfl) (jroom (by decide)) rfl (m_see hT (by (try simp (disch := omega) only [put_r6, put_w6, put_r7, put_w7, put_r9, put_w9, put_r10, put_w10, put_r11, put_w11, put_r12, put_w12, put_r13, put_w13, put_r14, put_w14, put_r15, put_w15, put_ra, put_r8, put_r0, put_rt, put_wa, u1, u2, hn8]); omega) (fun w26 => ?_) (fun w26 => ?_))
          · dsimp only [jpush]
            (try simp (disch := omega) only [put_r6, put_w6, put_r7, put_w7, put_r9, put_w9, put_r10, put_w10, put_r11, put_w11, put_r12, put_w12, put_r13, put_w13, put_r14, put_w14, put_r15, put_w15, put_ra, put_r8, put_r0, put_rt, put_wa, u1, u2, hn8] at w26)
            (try simp (disch := omega) only [put_r6, put_w6, put_r7, put_w7, put_r9, put_w9, put_r10, put_w10, put_r11, put_w11, put_r12, put_w12, put_r13, put_w13, put_r14, put_w14, put_r15, put_w15, put_ra, put_r8, put_r0, put_rt, put_wa, u1, u2, hn8])
            first
             | (exfalso; omega)
             | (skip
                refine e_bipush 31 dX12_next_29 (by decide) rfl ?_
                refine e_icmp_ne 34 47 dX12_next_31 (by omega) (by decide) (by decide) rfl (fun b31 => ?_) (fun b31 => ?_)
                · first
                   | (exfalso; omega)
                   | (skip
                      exact h)
                · first
                   | (exfalso; omega)
                   | (skip
                      refine e_aload_n (i := 0) 35 dX12_next_34 rfl rfl rfl ?_
                      refine e_dup 36 dX12_next_35 rfl rfl ?_
                      refine e_geti (j := 6) 39 fl_12_97 dX12_next_36 at_928 (by decide) rfl rfl (fun r36 => ?_)
                      simp (disch := omega) only [put_r6, put_w6, put_r7, put_w7, put_r9, put_w9, put_r10, put_w10, put_r11, put_w11, put_r12, put_w12, put_r13, put_w13, put_r14, put_w14, put_r15, put_w15, put_ra, put_r8, put_r0, put_rt, put_wa, u1, u2, hn8] at r36 ⊢
                      refine e_iconst 40 dX12_next_39 rfl ?_
                      refine e_iadd 41 dX12_next_40 rfl ?_
                      refine e_puti (j := 6) 44 fl_12_97 dX12_next_41 at_928 rfl rfl rfl (by omega) rfl ?_
                      refine e_goto 8 dX12_next_44 (by decide) ?_
                      omega))
          · dsimp only [jpush]
            (try simp (disch := omega) only [put_r6, put_w6, put_r7, put_w7, put_r9, put_w9, put_r10, put_w10, put_r11, put_w11, put_r12, put_w12, put_r13, put_w13, put_r14, put_w14, put_r15, put_w15, put_ra, put_r8, put_r0, put_rt, put_wa, u1, u2, hn8] at w26)
            (try simp (disch := omega) only [put_r6, put_w6, put_r7, put_w7, put_r9, put_w9, put_r10, put_w10, put_r11, put_w11, put_r12, put_w12, put_r13, put_w13, put_r14, put_w14, put_r15, put_w15, put_ra, put_r8, put_r0, put_rt, put_wa, u1, u2, hn8])
            first
             | (exfalso; omega)
             | (skip
                refine e_bipush 31 dX12_next_29 (by decide) rfl ?_
                refine e_icmp_ne 34 47 dX12_next_31 (by decide) (by decide) (by decide) rfl (fun _ => ?_) (fun h => absurd h (by decide))
                exact h))
  | succ f ih =>
    intro q q0 hq h
    rw [tBl] at h
    have hby := hT.2.2 q q0 (by omega)
    have hn8 := hT.1
    have hn := hT.2.1
    refine e_aload_n (i := 0) 9 dX12_next_8 rfl rfl rfl ?_
    refine e_aload_n (i := 0) 10 dX12_next_9 rfl rfl rfl ?_
    refine e_geti (j := 6) 13 fl_12_97 dX12_next_10 at_928 (by decide) rfl rfl (fun r10 => ?_)
    simp (disch := omega) only [put_r6, put_w6, put_r7, put_w7, put_r9, put_w9, put_r10, put_w10, put_r11, put_w11, put_r12, put_w12, put_r13, put_w13, put_r14, put_w14, put_r15, put_w15, put_ra, put_r8, put_r0, put_rt, put_wa, u1, u2, hn8] at r10 ⊢
    refine e_callV 16 mt_yX12_see mv_yX12_see wd_1397 (by decide) dX12_next_13 at_928 jc_12 rfl rfl rfl (Nat.le_of_ble_eq_true rfl) (jroom (by decide)) rfl (m_see hT (by (try simp (disch := omega) only [put_r6, put_w6, put_r7, put_w7, put_r9, put_w9, put_r10, put_w10, put_r11, put_w11, put_r12, put_w12, put_r13, put_w13, put_r14, put_w14, put_r15, put_w15, put_ra, put_r8, put_r0, put_rt, put_wa, u1, u2, hn8]); omega) (fun w13 => ?_) (fun w13 => ?_))
    · dsimp only [jpush]
      (try simp (disch := omega) only [put_r6, put_w6, put_r7, put_w7, put_r9, put_w9, put_r10, put_w10, put_r11, put_w11, put_r12, put_w12, put_r13, put_w13, put_r14, put_w14, put_r15, put_w15, put_ra, put_r8, put_r0, put_rt, put_wa, u1, u2, hn8] at w13)
      (try simp (disch := omega) only [put_r6, put_w6, put_r7, put_w7, put_r9, put_w9, put_r10, put_w10, put_r11, put_w11, put_r12, put_w12, put_r13, put_w13, put_r14, put_w14, put_r15, put_w15, put_ra, put_r8, put_r0, put_rt, put_wa, u1, u2, hn8])
      first
       | (exfalso; omega)
       | (skip
          refine e_bipush 18 dX12_next_16 (by decide) rfl ?_
          refine e_icmp_eq 21 34 dX12_next_18 (by omega) (by decide) (by decide) rfl (fun b18 => ?_) (fun b18 => ?_)
          · first
             | (exfalso; omega)
             | (skip
                refine e_aload_n (i := 0) 35 dX12_next_34 rfl rfl rfl ?_
                refine e_dup 36 dX12_next_35 rfl rfl ?_
                refine e_geti (j := 6) 39 fl_12_97 dX12_next_36 at_928 (by decide) rfl rfl (fun r36 => ?_)
                simp (disch := omega) only [put_r6, put_w6, put_r7, put_w7, put_r9, put_w9, put_r10, put_w10, put_r11, put_w11, put_r12, put_w12, put_r13, put_w13, put_r14, put_w14, put_r15, put_w15, put_ra, put_r8, put_r0, put_rt, put_wa, u1, u2, hn8] at r36 ⊢
                refine e_iconst 40 dX12_next_39 rfl ?_
                refine e_iadd 41 dX12_next_40 rfl ?_
                refine e_puti (j := 6) 44 fl_12_97 dX12_next_41 at_928 rfl rfl rfl (by omega) rfl ?_
                refine e_goto 8 dX12_next_44 (by decide) ?_
                rw [if_pos (by omega)] at h
                simp (disch := omega) only [put_r6, put_w6, put_r7, put_w7, put_r9, put_w9, put_r10, put_w10, put_r11, put_w11, put_r12, put_w12, put_r13, put_w13, put_r14, put_w14, put_r15, put_w15, put_ra, put_r8, put_r0, put_rt, put_wa, u1, u2, hn8]
                exact ih (q + 1) (by omega) (by omega) h)
          · first
             | (exfalso; omega)
             | (skip
                refine e_aload_n (i := 0) 22 dX12_next_21 rfl rfl rfl ?_
                refine e_aload_n (i := 0) 23 dX12_next_22 rfl rfl rfl ?_
                refine e_geti (j := 6) 26 fl_12_97 dX12_next_23 at_928 (by decide) rfl rfl (fun r23 => ?_)
                simp (disch := omega) only [put_r6, put_w6, put_r7, put_w7, put_r9, put_w9, put_r10, put_w10, put_r11, put_w11, put_r12, put_w12, put_r13, put_w13, put_r14, put_w14, put_r15, put_w15, put_ra, put_r8, put_r0, put_rt, put_wa, u1, u2, hn8] at r23 ⊢
                refine e_callV 29 mt_yX12_see mv_yX12_see wd_1397 (by decide) dX12_next_26 at_928 jc_12 rfl rfl rfl (Nat.le_of_ble_eq_true rfl) (jroom (by decide)) rfl (m_see hT (by (try simp (disch := omega) only [put_r6, put_w6, put_r7, put_w7, put_r9, put_w9, put_r10, put_w10, put_r11, put_w11, put_r12, put_w12, put_r13, put_w13, put_r14, put_w14, put_r15, put_w15, put_ra, put_r8, put_r0, put_rt, put_wa, u1, u2, hn8]); omega) (fun w26 => ?_) (fun w26 => ?_))
                · dsimp only [jpush]
                  (try simp (disch := omega) only [put_r6, put_w6, put_r7, put_w7, put_r9, put_w9, put_r10, put_w10, put_r11, put_w11, put_r12, put_w12, put_r13, put_w13, put_r14, put_w14, put_r15, put_w15, put_ra, put_r8, put_r0, put_rt, put_wa, u1, u2, hn8] at w26)
                  (try simp (disch := omega) only [put_r6, put_w6, put_r7, put_w7, put_r9, put_w9, put_r10, put_w10, put_r11, put_w11, put_r12, put_w12, put_r13, put_w13, put_r14, put_w14, put_r15, put_w15, put_ra, put_r8, put_r0, put_rt, put_wa, u1, u2, hn8])
                  first
                   | (exfalso; omega)
                   | (skip
                      refine e_bipush 31 dX12_next_29 (by decide) rfl ?_
                      refine e_icmp_ne 34 47 dX12_next_31 (by omega) (by decide) (by decide) rfl (fun b31 => ?_) (fun b31 => ?_)
                      · first
                         | (exfalso; omega)
                         | (skip
                            rw [if_neg (by omega)] at h
                            exact h)
                      · first
                         | (exfalso; omega)
                         | (skip
                            refine e_aload_n (i := 0) 35 dX12_next_34 rfl rfl rfl ?_
                            refine e_dup 36 dX12_next_35 rfl rfl ?_
                            refine e_geti (j := 6) 39 fl_12_97 dX12_next_36 at_928 (by decide) rfl rfl (fun r36 => ?_)
                            simp (disch := omega) only [put_r6, put_w6, put_r7, put_w7, put_r9, put_w9, put_r10, put_w10, put_r11, put_w11, put_r12, put_w12, put_r13, put_w13, put_r14, put_w14, put_r15, put_w15, put_ra, put_r8, put_r0, put_rt, put_wa, u1, u2, hn8] at r36 ⊢
                            refine e_iconst 40 dX12_next_39 rfl ?_
                            refine e_iadd 41 dX12_next_40 rfl ?_
                            refine e_puti (j := 6) 44 fl_12_97 dX12_next_41 at_928 rfl rfl rfl (by omega) rfl ?_
                            refine e_goto 8 dX12_next_44 (by decide) ?_
                            rw [if_pos (by omega)] at h
                            simp (disch := omega) only [put_r6, put_w6, put_r7, put_w7, put_r9, put_w9, put_r10, put_w10, put_r11, put_w11, put_r12, put_w12, put_r13, put_w13, put_r14, put_w14, put_r15, put_w15, put_ra, put_r8, put_r0, put_rt, put_wa, u1, u2, hn8]
                            exact ih (q + 1) (by omega) (by omega) h))
                · dsimp only [jpush]
                  (try simp (disch := omega) only [put_r6, put_w6, put_r7, put_w7, put_r9, put_w9, put_r10, put_w10, put_r11, put_w11, put_r12, put_w12, put_r13, put_w13, put_r14, put_w14, put_r15, put_w15, put_ra, put_r8, put_r0, put_rt, put_wa, u1, u2, hn8] at w26)
                  (try simp (disch := omega) only [put_r6, put_w6, put_r7, put_w7, put_r9, put_w9, put_r10, put_w10, put_r11, put_w11, put_r12, put_w12, put_r13, put_w13, put_r14, put_w14, put_r15, put_w15, put_ra, put_r8, put_r0, put_rt, put_wa, u1, u2, hn8])
                  first
                   | (exfalso; omega)
                   | (skip
                      refine e_bipush 31 dX12_next_29 (by decide) rfl ?_
                      refine e_icmp_ne 34 47 dX12_next_31 (by decide) (by decide) (by decide) rfl (fun _ => ?_) (fun h => absurd h (by decide))
                      rw [if_neg (by omega)] at h
                      exact h)))
    · dsimp only [jpush]
      (try simp (disch := omega) only [put_r6, put_w6, put_r7, put_w7, put_r9, put_w9, put_r10, put_w10, put_r11, put_w11, put_r12, put_w12, put_r13, put_w13, put_r14, put_w14, put_r15, put_w15, put_ra, put_r8, put_r0, put_rt, put_wa, u1, u2, hn8] at w13)
      (try simp (disch := omega) only [put_r6, put_w6, put_r7, put_w7, put_r9, put_w9, put_r10, put_w10, put_r11, put_w11, put_r12, put_w12, put_r13, put_w13, put_r14, put_w14, put_r15, put_w15, put_ra, put_r8, put_r0, put_rt, put_wa, u1, u2, hn8])
      first
       | (exfalso; omega)
       | (skip
          refine e_bipush 18 dX12_next_16 (by decide) rfl ?_
          refine e_icmp_eq 21 34 dX12_next_18 (by decide) (by decide) (by decide) rfl (fun h => absurd h (by decide)) (fun _ => ?_)
          refine e_aload_n (i := 0) 22 dX12_next_21 rfl rfl rfl ?_
          refine e_aload_n (i := 0) 23 dX12_next_22 rfl rfl rfl ?_
          refine e_geti (j := 6) 26 fl_12_97 dX12_next_23 at_928 (by decide) rfl rfl (fun r23 => ?_)
          simp (disch := omega) only [put_r6, put_w6, put_r7, put_w7, put_r9, put_w9, put_r10, put_w10, put_r11, put_w11, put_r12, put_w12, put_r13, put_w13, put_r14, put_w14, put_r15, put_w15, put_ra, put_r8, put_r0, put_rt, put_wa, u1, u2, hn8] at r23 ⊢
          refine e_callV 29 mt_yX12_see mv_yX12_see wd_1397 (by decide) dX12_next_26 at_928 jc_12 rfl rfl rfl (Nat.le_of_ble_eq_true rfl) (jroom (by decide)) rfl (m_see hT (by (try simp (disch := omega) only [put_r6, put_w6, put_r7, put_w7, put_r9, put_w9, put_r10, put_w10, put_r11, put_w11, put_r12, put_w12, put_r13, put_w13, put_r14, put_w14, put_r15, put_w15, put_ra, put_r8, put_r0, put_rt, put_wa, u1, u2, hn8]); omega) (fun w26 => ?_) (fun w26 => ?_))
          · dsimp only [jpush]
            (try simp (disch := omega) only [put_r6, put_w6, put_r7, put_w7, put_r9, put_w9, put_r10, put_w10, put_r11, put_w11, put_r12, put_w12, put_r13, put_w13, put_r14, put_w14, put_r15, put_w15, put_ra, put_r8, put_r0, put_rt, put_wa, u1, u2, hn8] at w26)
            (try simp (disch := omega) only [put_r6, put_w6, put_r7, put_w7, put_r9, put_w9, put_r10, put_w10, put_r11, put_w11, put_r12, put_w12, put_r13, put_w13, put_r14, put_w14, put_r15, put_w15, put_ra, put_r8, put_r0, put_rt, put_wa, u1, u2, hn8])
            first
             | (exfalso; omega)
             | (skip
                refine e_bipush 31 dX12_next_29 (by decide) rfl ?_
                refine e_icmp_ne 34 47 dX12_next_31 (by omega) (by decide) (by decide) rfl (fun b31 => ?_) (fun b31 => ?_)
                · first
                   | (exfalso; omega)
                   | (skip
                      rw [if_neg (by omega)] at h
                      exact h)
                · first
                   | (exfalso; omega)
                   | (skip
                      refine e_aload_n (i := 0) 35 dX12_next_34 rfl rfl rfl ?_
                      refine e_dup 36 dX12_next_35 rfl rfl ?_
                      refine e_geti (j := 6) 39 fl_12_97 dX12_next_36 at_928 (by decide) rfl rfl (fun r36 => ?_)
                      simp (disch := omega) only [put_r6, put_w6, put_r7, put_w7, put_r9, put_w9, put_r10, put_w10, put_r11, put_w11, put_r12, put_w12, put_r13, put_w13, put_r14, put_w14, put_r15, put_w15, put_ra, put_r8, put_r0, put_rt, put_wa, u1, u2, hn8] at r36 ⊢
                      refine e_iconst 40 dX12_next_39 rfl ?_
                      refine e_iadd 41 dX12_next_40 rfl ?_
                      refine e_puti (j := 6) 44 fl_12_97 dX12_next_41 at_928 rfl rfl rfl (by omega) rfl ?_
                      refine e_goto 8 dX12_next_44 (by decide) ?_
                      rw [if_pos (by omega)] at h
                      simp (disch := omega) only [put_r6, put_w6, put_r7, put_w7, put_r9, put_w9, put_r10, put_w10, put_r11, put_w11, put_r12, put_w12, put_r13, put_w13, put_r14, put_w14, put_r15, put_w15, put_ra, put_r8, put_r0, put_rt, put_wa, u1, u2, hn8]
                      exact ih (q + 1) (by omega) (by omega) h))
          · dsimp only [jpush]
            (try simp (disch := omega) only [put_r6, put_w6, put_r7, put_w7, put_r9, put_w9, put_r10, put_w10, put_r11, put_w11, put_r12, put_w12, put_r13, put_w13, put_r14, put_w14, put_r15, put_w15, put_ra, put_r8, put_r0, put_rt, put_wa, u1, u2, hn8] at w26)
            (try simp (disch := omega) only [put_r6, put_w6, put_r7, put_w7, put_r9, put_w9, put_r10, put_w10, put_r11, put_w11, put_r12, put_w12, put_r13, put_w13, put_r14, put_w14, put_r15, put_w15, put_ra, put_r8, put_r0, put_rt, put_wa, u1, u2, hn8])
            first
             | (exfalso; omega)
             | (skip
                refine e_bipush 31 dX12_next_29 (by decide) rfl ?_
                refine e_icmp_ne 34 47 dX12_next_31 (by decide) (by decide) (by decide) rfl (fun _ => ?_) (fun h => absurd h (by decide))
                rw [if_neg (by omega)] at h
                exact h))

theorem ln_s {X : jX} {M : jM} {n : Int} {Q : Int → jM → Prop} (hT : RT M n) {q : Int} {y : Int × Int × Int × Int × Int × Int × Int × (Int → Int)} : ∀ (f : Nat) (x : Int), 0 ≤ x → x + f = n → jE X yX12_next cX12_next 1 none 6 Q (put M (q, tSm (M 931) f x, y)) 116 [(0, jR 928)] [] → jE X yX12_next cX12_next 1 none 6 Q (put M (q, x, y)) 89 [(0, jR 928)] [] := by
  intro f
  induction f with
  | zero =>
    intro x x0 hx h
    rw [tSm] at h
    have hn8 := hT.1
    have hn := hT.2.1
    refine e_aload_n (i := 0) 90 dX12_next_89 rfl rfl rfl ?_
    refine e_aload_n (i := 0) 91 dX12_next_90 rfl rfl rfl ?_
    refine e_geti (j := 7) 94 fl_12_100 dX12_next_91 at_928 (by decide) rfl rfl (fun r91 => ?_)
    simp (disch := omega) only [put_r6, put_w6, put_r7, put_w7, put_r9, put_w9, put_r10, put_w10, put_r11, put_w11, put_r12, put_w12, put_r13, put_w13, put_r14, put_w14, put_r15, put_w15, put_ra, put_r8, put_r0, put_rt, put_wa, u1, u2, hn8] at r91 ⊢
    refine e_callV 97 mt_yX12_see mv_yX12_see wd_1397 (by decide) dX12_next_94 at_928 jc_12 rfl rfl rfl (Nat.le_of_ble_eq_true rfl) (jroom (by decide)) rfl (m_see hT (by (try simp (disch := omega) only [put_r6, put_w6, put_r7, put_w7, put_r9, put_w9, put_r10, put_w10, put_r11, put_w11, put_r12, put_w12, put_r13, put_w13, put_r14, put_w14, put_r15, put_w15, put_ra, put_r8, put_r0, put_rt, put_wa, u1, u2, hn8]); omega) (fun w94 => ?_) (fun w94 => ?_))
    · dsimp only [jpush]
      (try simp (disch := omega) only [put_r6, put_w6, put_r7, put_w7, put_r9, put_w9, put_r10, put_w10, put_r11, put_w11, put_r12, put_w12, put_r13, put_w13, put_r14, put_w14, put_r15, put_w15, put_ra, put_r8, put_r0, put_rt, put_wa, u1, u2, hn8] at w94)
      (try simp (disch := omega) only [put_r6, put_w6, put_r7, put_w7, put_r9, put_w9, put_r10, put_w10, put_r11, put_w11, put_r12, put_w12, put_r13, put_w13, put_r14, put_w14, put_r15, put_w15, put_ra, put_r8, put_r0, put_rt, put_wa, u1, u2, hn8])
      first
       | (exfalso; omega)
       | (skip
          refine e_callS 100 mt_yX12_isSmall ms_yX12_isSmall wd_1401 (by decide) dX12_next_97 rfl rfl (Nat.le_of_ble_eq_true rfl) (jroom (by decide)) rfl (m_isSmall (by (try simp (disch := omega) only [put_r6, put_w6, put_r7, put_w7, put_r9, put_w9, put_r10, put_w10, put_r11, put_w11, put_r12, put_w12, put_r13, put_w13, put_r14, put_w14, put_r15, put_w15, put_ra, put_r8, put_r0, put_rt, put_wa, u1, u2, hn8]); omega) (fun w97 => ?_) (fun w97 => ?_))
          · dsimp only [jpush]
            (try simp (disch := omega) only [put_r6, put_w6, put_r7, put_w7, put_r9, put_w9, put_r10, put_w10, put_r11, put_w11, put_r12, put_w12, put_r13, put_w13, put_r14, put_w14, put_r15, put_w15, put_ra, put_r8, put_r0, put_rt, put_wa, u1, u2, hn8] at w97)
            (try simp (disch := omega) only [put_r6, put_w6, put_r7, put_w7, put_r9, put_w9, put_r10, put_w10, put_r11, put_w11, put_r12, put_w12, put_r13, put_w13, put_r14, put_w14, put_r15, put_w15, put_ra, put_r8, put_r0, put_rt, put_wa, u1, u2, hn8])
            first
             | (exfalso; omega)
             | (skip
                refine e_if_eq 103 116 dX12_next_100 (by decide) (by decide) rfl (fun h => absurd h (by decide)) (fun _ => ?_)
                refine e_aload_n (i := 0) 104 dX12_next_103 rfl rfl rfl ?_
                refine e_dup 105 dX12_next_104 rfl rfl ?_
                refine e_geti (j := 7) 108 fl_12_100 dX12_next_105 at_928 (by decide) rfl rfl (fun r105 => ?_)
                simp (disch := omega) only [put_r6, put_w6, put_r7, put_w7, put_r9, put_w9, put_r10, put_w10, put_r11, put_w11, put_r12, put_w12, put_r13, put_w13, put_r14, put_w14, put_r15, put_w15, put_ra, put_r8, put_r0, put_rt, put_wa, u1, u2, hn8] at r105 ⊢
                refine e_iconst 109 dX12_next_108 rfl ?_
                refine e_iadd 110 dX12_next_109 rfl ?_
                refine e_puti (j := 7) 113 fl_12_100 dX12_next_110 at_928 rfl rfl rfl (by omega) rfl ?_
                refine e_goto 89 dX12_next_113 (by decide) ?_
                omega)
          · dsimp only [jpush]
            (try simp (disch := omega) only [put_r6, put_w6, put_r7, put_w7, put_r9, put_w9, put_r10, put_w10, put_r11, put_w11, put_r12, put_w12, put_r13, put_w13, put_r14, put_w14, put_r15, put_w15, put_ra, put_r8, put_r0, put_rt, put_wa, u1, u2, hn8] at w97)
            (try simp (disch := omega) only [put_r6, put_w6, put_r7, put_w7, put_r9, put_w9, put_r10, put_w10, put_r11, put_w11, put_r12, put_w12, put_r13, put_w13, put_r14, put_w14, put_r15, put_w15, put_ra, put_r8, put_r0, put_rt, put_wa, u1, u2, hn8])
            first
             | (exfalso; omega)
             | (skip
                refine e_if_eq 103 116 dX12_next_100 (by decide) (by decide) rfl (fun _ => ?_) (fun h => absurd h (by decide))
                exact h))
    · dsimp only [jpush]
      (try simp (disch := omega) only [put_r6, put_w6, put_r7, put_w7, put_r9, put_w9, put_r10, put_w10, put_r11, put_w11, put_r12, put_w12, put_r13, put_w13, put_r14, put_w14, put_r15, put_w15, put_ra, put_r8, put_r0, put_rt, put_wa, u1, u2, hn8] at w94)
      (try simp (disch := omega) only [put_r6, put_w6, put_r7, put_w7, put_r9, put_w9, put_r10, put_w10, put_r11, put_w11, put_r12, put_w12, put_r13, put_w13, put_r14, put_w14, put_r15, put_w15, put_ra, put_r8, put_r0, put_rt, put_wa, u1, u2, hn8])
      first
       | (exfalso; omega)
       | (skip
          refine e_callS 100 mt_yX12_isSmall ms_yX12_isSmall wd_1401 (by decide) dX12_next_97 rfl rfl (Nat.le_of_ble_eq_true rfl) (jroom (by decide)) rfl (m_isSmall (by (try simp (disch := omega) only [put_r6, put_w6, put_r7, put_w7, put_r9, put_w9, put_r10, put_w10, put_r11, put_w11, put_r12, put_w12, put_r13, put_w13, put_r14, put_w14, put_r15, put_w15, put_ra, put_r8, put_r0, put_rt, put_wa, u1, u2, hn8]); omega) (fun w97 => ?_) (fun w97 => ?_))
          · dsimp only [jpush]
            (try simp (disch := omega) only [put_r6, put_w6, put_r7, put_w7, put_r9, put_w9, put_r10, put_w10, put_r11, put_w11, put_r12, put_w12, put_r13, put_w13, put_r14, put_w14, put_r15, put_w15, put_ra, put_r8, put_r0, put_rt, put_wa, u1, u2, hn8] at w97)
            (try simp (disch := omega) only [put_r6, put_w6, put_r7, put_w7, put_r9, put_w9, put_r10, put_w10, put_r11, put_w11, put_r12, put_w12, put_r13, put_w13, put_r14, put_w14, put_r15, put_w15, put_ra, put_r8, put_r0, put_rt, put_wa, u1, u2, hn8])
            first
             | (exfalso; omega)
             | (skip
                refine e_if_eq 103 116 dX12_next_100 (by decide) (by decide) rfl (fun h => absurd h (by decide)) (fun _ => ?_)
                refine e_aload_n (i := 0) 104 dX12_next_103 rfl rfl rfl ?_
                refine e_dup 105 dX12_next_104 rfl rfl ?_
                refine e_geti (j := 7) 108 fl_12_100 dX12_next_105 at_928 (by decide) rfl rfl (fun r105 => ?_)
                simp (disch := omega) only [put_r6, put_w6, put_r7, put_w7, put_r9, put_w9, put_r10, put_w10, put_r11, put_w11, put_r12, put_w12, put_r13, put_w13, put_r14, put_w14, put_r15, put_w15, put_ra, put_r8, put_r0, put_rt, put_wa, u1, u2, hn8] at r105 ⊢
                refine e_iconst 109 dX12_next_108 rfl ?_
                refine e_iadd 110 dX12_next_109 rfl ?_
                refine e_puti (j := 7) 113 fl_12_100 dX12_next_110 at_928 rfl rfl rfl (by omega) rfl ?_
                refine e_goto 89 dX12_next_113 (by decide) ?_
                omega)
          · dsimp only [jpush]
            (try simp (disch := omega) only [put_r6, put_w6, put_r7, put_w7, put_r9, put_w9, put_r10, put_w10, put_r11, put_w11, put_r12, put_w12, put_r13, put_w13, put_r14, put_w14, put_r15, put_w15, put_ra, put_r8, put_r0, put_rt, put_wa, u1, u2, hn8] at w97)
            (try simp (disch := omega) only [put_r6, put_w6, put_r7, put_w7, put_r9, put_w9, put_r10, put_w10, put_r11, put_w11, put_r12, put_w12, put_r13, put_w13, put_r14, put_w14, put_r15, put_w15, put_ra, put_r8, put_r0, put_rt, put_wa, u1, u2, hn8])
            first
             | (exfalso; omega)
             | (skip
                refine e_if_eq 103 116 dX12_next_100 (by decide) (by decide) rfl (fun _ => ?_) (fun h => absurd h (by decide))
                exact h))
  | succ f ih =>
    intro x x0 hx h
    rw [tSm] at h
    have hby := hT.2.2 x x0 (by omega)
    have hn8 := hT.1
    have hn := hT.2.1
    refine e_aload_n (i := 0) 90 dX12_next_89 rfl rfl rfl ?_
    refine e_aload_n (i := 0) 91 dX12_next_90 rfl rfl rfl ?_
    refine e_geti (j := 7) 94 fl_12_100 dX12_next_91 at_928 (by decide) rfl rfl (fun r91 => ?_)
    simp (disch := omega) only [put_r6, put_w6, put_r7, put_w7, put_r9, put_w9, put_r10, put_w10, put_r11, put_w11, put_r12, put_w12, put_r13, put_w13, put_r14, put_w14, put_r15, put_w15, put_ra, put_r8, put_r0, put_rt, put_wa, u1, u2, hn8] at r91 ⊢
    refine e_callV 97 mt_yX12_see mv_yX12_see wd_1397 (by decide) dX12_next_94 at_928 jc_12 rfl rfl rfl (Nat.le_of_ble_eq_true rfl) (jroom (by decide)) rfl (m_see hT (by (try simp (disch := omega) only [put_r6, put_w6, put_r7, put_w7, put_r9, put_w9, put_r10, put_w10, put_r11, put_w11, put_r12, put_w12, put_r13, put_w13, put_r14, put_w14, put_r15, put_w15, put_ra, put_r8, put_r0, put_rt, put_wa, u1, u2, hn8]); omega) (fun w94 => ?_) (fun w94 => ?_))
    · dsimp only [jpush]
      (try simp (disch := omega) only [put_r6, put_w6, put_r7, put_w7, put_r9, put_w9, put_r10, put_w10, put_r11, put_w11, put_r12, put_w12, put_r13, put_w13, put_r14, put_w14, put_r15, put_w15, put_ra, put_r8, put_r0, put_rt, put_wa, u1, u2, hn8] at w94)
      (try simp (disch := omega) only [put_r6, put_w6, put_r7, put_w7, put_r9, put_w9, put_r10, put_w10, put_r11, put_w11, put_r12, put_w12, put_r13, put_w13, put_r14, put_w14, put_r15, put_w15, put_ra, put_r8, put_r0, put_rt, put_wa, u1, u2, hn8])
      first
       | (exfalso; omega)
       | (skip
          refine e_callS 100 mt_yX12_isSmall ms_yX12_isSmall wd_1401 (by decide) dX12_next_97 rfl rfl (Nat.le_of_ble_eq_true rfl) (jroom (by decide)) rfl (m_isSmall (by (try simp (disch := omega) only [put_r6, put_w6, put_r7, put_w7, put_r9, put_w9, put_r10, put_w10, put_r11, put_w11, put_r12, put_w12, put_r13, put_w13, put_r14, put_w14, put_r15, put_w15, put_ra, put_r8, put_r0, put_rt, put_wa, u1, u2, hn8]); omega) (fun w97 => ?_) (fun w97 => ?_))
          · dsimp only [jpush]
            (try simp (disch := omega) only [put_r6, put_w6, put_r7, put_w7, put_r9, put_w9, put_r10, put_w10, put_r11, put_w11, put_r12, put_w12, put_r13, put_w13, put_r14, put_w14, put_r15, put_w15, put_ra, put_r8, put_r0, put_rt, put_wa, u1, u2, hn8] at w97)
            (try simp (disch := omega) only [put_r6, put_w6, put_r7, put_w7, put_r9, put_w9, put_r10, put_w10, put_r11, put_w11, put_r12, put_w12, put_r13, put_w13, put_r14, put_w14, put_r15, put_w15, put_ra, put_r8, put_r0, put_rt, put_wa, u1, u2, hn8])
            first
             | (exfalso; omega)
             | (skip
                refine e_if_eq 103 116 dX12_next_100 (by decide) (by decide) rfl (fun h => absurd h (by decide)) (fun _ => ?_)
                refine e_aload_n (i := 0) 104 dX12_next_103 rfl rfl rfl ?_
                refine e_dup 105 dX12_next_104 rfl rfl ?_
                refine e_geti (j := 7) 108 fl_12_100 dX12_next_105 at_928 (by decide) rfl rfl (fun r105 => ?_)
                simp (disch := omega) only [put_r6, put_w6, put_r7, put_w7, put_r9, put_w9, put_r10, put_w10, put_r11, put_w11, put_r12, put_w12, put_r13, put_w13, put_r14, put_w14, put_r15, put_w15, put_ra, put_r8, put_r0, put_rt, put_wa, u1, u2, hn8] at r105 ⊢
                refine e_iconst 109 dX12_next_108 rfl ?_
                refine e_iadd 110 dX12_next_109 rfl ?_
                refine e_puti (j := 7) 113 fl_12_100 dX12_next_110 at_928 rfl rfl rfl (by omega) rfl ?_
                refine e_goto 89 dX12_next_113 (by decide) ?_
                rw [if_pos (by omega)] at h
                simp (disch := omega) only [put_r6, put_w6, put_r7, put_w7, put_r9, put_w9, put_r10, put_w10, put_r11, put_w11, put_r12, put_w12, put_r13, put_w13, put_r14, put_w14, put_r15, put_w15, put_ra, put_r8, put_r0, put_rt, put_wa, u1, u2, hn8]
                exact ih (x + 1) (by omega) (by omega) h)
          · dsimp only [jpush]
            (try simp (disch := omega) only [put_r6, put_w6, put_r7, put_w7, put_r9, put_w9, put_r10, put_w10, put_r11, put_w11, put_r12, put_w12, put_r13, put_w13, put_r14, put_w14, put_r15, put_w15, put_ra, put_r8, put_r0, put_rt, put_wa, u1, u2, hn8] at w97)
            (try simp (disch := omega) only [put_r6, put_w6, put_r7, put_w7, put_r9, put_w9, put_r10, put_w10, put_r11, put_w11, put_r12, put_w12, put_r13, put_w13, put_r14, put_w14, put_r15, put_w15, put_ra, put_r8, put_r0, put_rt, put_wa, u1, u2, hn8])
            first
             | (exfalso; omega)
             | (skip
                refine e_if_eq 103 116 dX12_next_100 (by decide) (by decide) rfl (fun _ => ?_) (fun h => absurd h (by decide))
                rw [if_neg (by omega)] at h
                exact h))
    · dsimp only [jpush]
      (try simp (disch := omega) only [put_r6, put_w6, put_r7, put_w7, put_r9, put_w9, put_r10, put_w10, put_r11, put_w11, put_r12, put_w12, put_r13, put_w13, put_r14, put_w14, put_r15, put_w15, put_ra, put_r8, put_r0, put_rt, put_wa, u1, u2, hn8] at w94)
      (try simp (disch := omega) only [put_r6, put_w6, put_r7, put_w7, put_r9, put_w9, put_r10, put_w10, put_r11, put_w11, put_r12, put_w12, put_r13, put_w13, put_r14, put_w14, put_r15, put_w15, put_ra, put_r8, put_r0, put_rt, put_wa, u1, u2, hn8])
      first
       | (exfalso; omega)
       | (skip
          refine e_callS 100 mt_yX12_isSmall ms_yX12_isSmall wd_1401 (by decide) dX12_next_97 rfl rfl (Nat.le_of_ble_eq_true rfl) (jroom (by decide)) rfl (m_isSmall (by (try simp (disch := omega) only [put_r6, put_w6, put_r7, put_w7, put_r9, put_w9, put_r10, put_w10, put_r11, put_w11, put_r12, put_w12, put_r13, put_w13, put_r14, put_w14, put_r15, put_w15, put_ra, put_r8, put_r0, put_rt, put_wa, u1, u2, hn8]); omega) (fun w97 => ?_) (fun w97 => ?_))
          · dsimp only [jpush]
            (try simp (disch := omega) only [put_r6, put_w6, put_r7, put_w7, put_r9, put_w9, put_r10, put_w10, put_r11, put_w11, put_r12, put_w12, put_r13, put_w13, put_r14, put_w14, put_r15, put_w15, put_ra, put_r8, put_r0, put_rt, put_wa, u1, u2, hn8] at w97)
            (try simp (disch := omega) only [put_r6, put_w6, put_r7, put_w7, put_r9, put_w9, put_r10, put_w10, put_r11, put_w11, put_r12, put_w12, put_r13, put_w13, put_r14, put_w14, put_r15, put_w15, put_ra, put_r8, put_r0, put_rt, put_wa, u1, u2, hn8])
            first
             | (exfalso; omega)
             | (skip
                refine e_if_eq 103 116 dX12_next_100 (by decide) (by decide) rfl (fun h => absurd h (by decide)) (fun _ => ?_)
                refine e_aload_n (i := 0) 104 dX12_next_103 rfl rfl rfl ?_
                refine e_dup 105 dX12_next_104 rfl rfl ?_
                refine e_geti (j := 7) 108 fl_12_100 dX12_next_105 at_928 (by decide) rfl rfl (fun r105 => ?_)
                simp (disch := omega) only [put_r6, put_w6, put_r7, put_w7, put_r9, put_w9, put_r10, put_w10, put_r11, put_w11, put_r12, put_w12, put_r13, put_w13, put_r14, put_w14, put_r15, put_w15, put_ra, put_r8, put_r0, put_rt, put_wa, u1, u2, hn8] at r105 ⊢
                refine e_iconst 109 dX12_next_108 rfl ?_
                refine e_iadd 110 dX12_next_109 rfl ?_
                refine e_puti (j := 7) 113 fl_12_100 dX12_next_110 at_928 rfl rfl rfl (by omega) rfl ?_
                refine e_goto 89 dX12_next_113 (by decide) ?_
                rw [if_pos (by omega)] at h
                simp (disch := omega) only [put_r6, put_w6, put_r7, put_w7, put_r9, put_w9, put_r10, put_w10, put_r11, put_w11, put_r12, put_w12, put_r13, put_w13, put_r14, put_w14, put_r15, put_w15, put_ra, put_r8, put_r0, put_rt, put_wa, u1, u2, hn8]
                exact ih (x + 1) (by omega) (by omega) h)
          · dsimp only [jpush]
            (try simp (disch := omega) only [put_r6, put_w6, put_r7, put_w7, put_r9, put_w9, put_r10, put_w10, put_r11, put_w11, put_r12, put_w12, put_r13, put_w13, put_r14, put_w14, put_r15, put_w15, put_ra, put_r8, put_r0, put_rt, put_wa, u1, u2, hn8] at w97)
            (try simp (disch := omega) only [put_r6, put_w6, put_r7, put_w7, put_r9, put_w9, put_r10, put_w10, put_r11, put_w11, put_r12, put_w12, put_r13, put_w13, put_r14, put_w14, put_r15, put_w15, put_ra, put_r8, put_r0, put_rt, put_wa, u1, u2, hn8])
            first
             | (exfalso; omega)
             | (skip
                refine e_if_eq 103 116 dX12_next_100 (by decide) (by decide) rfl (fun _ => ?_) (fun h => absurd h (by decide))
                rw [if_neg (by omega)] at h
                exact h))

theorem ln_d {X : jX} {M : jM} {n : Int} {Q : Int → jM → Prop} (hT : RT M n) {q k : Int} (hq0 : 0 ≤ q) {y : Int × Int × Int × Int × Int × (Int → Int)} : ∀ (f : Nat) (x : Int), q ≤ x → x + f = n → jE X yX12_next cX12_next 1 none 6 Q (put M (q, tDg (M 931) f x, k, tNum (M 931) q (tDg (M 931) f x - q), y)) 209 [(0, jR 928)] [] → jE X yX12_next cX12_next 1 none 6 Q (put M (q, x, k, tNum (M 931) q (x - q), y)) 146 [(0, jR 928)] [] := by
  intro f
  induction f with
  | zero =>
    intro x x0 hx h
    rw [tDg] at h
    have hn8 := hT.1
    have hn := hT.2.1
    refine e_aload_n (i := 0) 147 dX12_next_146 rfl rfl rfl ?_
    refine e_aload_n (i := 0) 148 dX12_next_147 rfl rfl rfl ?_
    refine e_geti (j := 7) 151 fl_12_100 dX12_next_148 at_928 (by decide) rfl rfl (fun r148 => ?_)
    simp (disch := omega) only [put_r6, put_w6, put_r7, put_w7, put_r9, put_w9, put_r10, put_w10, put_r11, put_w11, put_r12, put_w12, put_r13, put_w13, put_r14, put_w14, put_r15, put_w15, put_ra, put_r8, put_r0, put_rt, put_wa, u1, u2, hn8] at r148 ⊢
    refine e_callV 154 mt_yX12_see mv_yX12_see wd_1397 (by decide) dX12_next_151 at_928 jc_12 rfl rfl rfl (Nat.le_of_ble_eq_true rfl) (jroom (by decide)) rfl (m_see hT (by (try simp (disch := omega) only [put_r6, put_w6, put_r7, put_w7, put_r9, put_w9, put_r10, put_w10, put_r11, put_w11, put_r12, put_w12, put_r13, put_w13, put_r14, put_w14, put_r15, put_w15, put_ra, put_r8, put_r0, put_rt, put_wa, u1, u2, hn8]); omega) (fun w151 => ?_) (fun w151 => ?_))
    · dsimp only [jpush]
      (try simp (disch := omega) only [put_r6, put_w6, put_r7, put_w7, put_r9, put_w9, put_r10, put_w10, put_r11, put_w11, put_r12, put_w12, put_r13, put_w13, put_r14, put_w14, put_r15, put_w15, put_ra, put_r8, put_r0, put_rt, put_wa, u1, u2, hn8] at w151)
      (try simp (disch := omega) only [put_r6, put_w6, put_r7, put_w7, put_r9, put_w9, put_r10, put_w10, put_r11, put_w11, put_r12, put_w12, put_r13, put_w13, put_r14, put_w14, put_r15, put_w15, put_ra, put_r8, put_r0, put_rt, put_wa, u1, u2, hn8])
      first
       | (exfalso; omega)
       | (skip
          refine e_callS 157 mt_yX12_isDigit ms_yX12_isDigit wd_1411 (by decide) dX12_next_154 rfl rfl (Nat.le_of_ble_eq_true rfl) (jroom (by decide)) rfl (m_isDigit (by (try simp (disch := omega) only [put_r6, put_w6, put_r7, put_w7, put_r9, put_w9, put_r10, put_w10, put_r11, put_w11, put_r12, put_w12, put_r13, put_w13, put_r14, put_w14, put_r15, put_w15, put_ra, put_r8, put_r0, put_rt, put_wa, u1, u2, hn8]); omega) (fun w154 => ?_) (fun w154 => ?_))
          · dsimp only [jpush]
            (try simp (disch := omega) only [put_r6, put_w6, put_r7, put_w7, put_r9, put_w9, put_r10, put_w10, put_r11, put_w11, put_r12, put_w12, put_r13, put_w13, put_r14, put_w14, put_r15, put_w15, put_ra, put_r8, put_r0, put_rt, put_wa, u1, u2, hn8] at w154)
            (try simp (disch := omega) only [put_r6, put_w6, put_r7, put_w7, put_r9, put_w9, put_r10, put_w10, put_r11, put_w11, put_r12, put_w12, put_r13, put_w13, put_r14, put_w14, put_r15, put_w15, put_ra, put_r8, put_r0, put_rt, put_wa, u1, u2, hn8])
            first
             | (exfalso; omega)
             | (skip
                refine e_if_eq 160 209 dX12_next_157 (by decide) (by decide) rfl (fun h => absurd h (by decide)) (fun _ => ?_)
                refine e_aload_n (i := 0) 161 dX12_next_160 rfl rfl rfl ?_
                refine e_geti (j := 7) 164 fl_12_100 dX12_next_161 at_928 (by decide) rfl rfl (fun r161 => ?_)
                simp (disch := omega) only [put_r6, put_w6, put_r7, put_w7, put_r9, put_w9, put_r10, put_w10, put_r11, put_w11, put_r12, put_w12, put_r13, put_w13, put_r14, put_w14, put_r15, put_w15, put_ra, put_r8, put_r0, put_rt, put_wa, u1, u2, hn8] at r161 ⊢
                refine e_aload_n (i := 0) 165 dX12_next_164 rfl rfl rfl ?_
                refine e_geti (j := 6) 168 fl_12_97 dX12_next_165 at_928 (by decide) rfl rfl (fun r165 => ?_)
                simp (disch := omega) only [put_r6, put_w6, put_r7, put_w7, put_r9, put_w9, put_r10, put_w10, put_r11, put_w11, put_r12, put_w12, put_r13, put_w13, put_r14, put_w14, put_r15, put_w15, put_ra, put_r8, put_r0, put_rt, put_wa, u1, u2, hn8] at r165 ⊢
                refine e_isub 169 dX12_next_168 rfl ?_
                refine e_iconst 170 dX12_next_169 rfl ?_
                refine e_icmp_ge 173 196 dX12_next_170 (by omega) (by decide) (by decide) rfl (fun b170 => ?_) (fun b170 => ?_)
                · first
                   | (exfalso; omega)
                   | (skip
                      refine e_aload_n (i := 0) 197 dX12_next_196 rfl rfl rfl ?_
                      refine e_dup 198 dX12_next_197 rfl rfl ?_
                      refine e_geti (j := 7) 201 fl_12_100 dX12_next_198 at_928 (by decide) rfl rfl (fun r198 => ?_)
                      simp (disch := omega) only [put_r6, put_w6, put_r7, put_w7, put_r9, put_w9, put_r10, put_w10, put_r11, put_w11, put_r12, put_w12, put_r13, put_w13, put_r14, put_w14, put_r15, put_w15, put_ra, put_r8, put_r0, put_rt, put_wa, u1, u2, hn8] at r198 ⊢
                      refine e_iconst 202 dX12_next_201 rfl ?_
                      refine e_iadd 203 dX12_next_202 rfl ?_
                      refine e_puti (j := 7) 206 fl_12_100 dX12_next_203 at_928 rfl rfl rfl (by omega) rfl ?_
                      refine e_goto 146 dX12_next_206 (by decide) ?_
                      omega)
                · first
                   | (exfalso; omega)
                   | (skip
                      refine e_aload_n (i := 0) 174 dX12_next_173 rfl rfl rfl ?_
                      refine e_bipush 176 dX12_next_174 (by decide) rfl ?_
                      refine e_aload_n (i := 0) 177 dX12_next_176 rfl rfl rfl ?_
                      refine e_geti (j := 10) 180 fl_12_120 dX12_next_177 at_928 (by decide) rfl rfl (fun r177 => ?_)
                      simp (disch := omega) only [put_r6, put_w6, put_r7, put_w7, put_r9, put_w9, put_r10, put_w10, put_r11, put_w11, put_r12, put_w12, put_r13, put_w13, put_r14, put_w14, put_r15, put_w15, put_ra, put_r8, put_r0, put_rt, put_wa, u1, u2, hn8] at r177 ⊢
                      refine e_imul 181 dX12_next_180 rfl ?_
                      refine e_aload_n (i := 0) 182 dX12_next_181 rfl rfl rfl ?_
                      refine e_aload_n (i := 0) 183 dX12_next_182 rfl rfl rfl ?_
                      refine e_geti (j := 7) 186 fl_12_100 dX12_next_183 at_928 (by decide) rfl rfl (fun r183 => ?_)
                      simp (disch := omega) only [put_r6, put_w6, put_r7, put_w7, put_r9, put_w9, put_r10, put_w10, put_r11, put_w11, put_r12, put_w12, put_r13, put_w13, put_r14, put_w14, put_r15, put_w15, put_ra, put_r8, put_r0, put_rt, put_wa, u1, u2, hn8] at r183 ⊢
                      refine e_callV 189 mt_yX12_see mv_yX12_see wd_1397 (by decide) dX12_next_186 at_928 jc_12 rfl rfl rfl (Nat.le_of_ble_eq_true rfl) (jroom (by decide)) rfl (m_see hT (by (try simp (disch := omega) only [put_r6, put_w6, put_r7, put_w7, put_r9, put_w9, put_r10, put_w10, put_r11, put_w11, put_r12, put_w12, put_r13, put_w13, put_r14, put_w14, put_r15, put_w15, put_ra, put_r8, put_r0, put_rt, put_wa, u1, u2, hn8]); omega) (fun w186 => ?_) (fun w186 => ?_))
                      · dsimp only [jpush]
                        (try simp (disch := omega) only [put_r6, put_w6, put_r7, put_w7, put_r9, put_w9, put_r10, put_w10, put_r11, put_w11, put_r12, put_w12, put_r13, put_w13, put_r14, put_w14, put_r15, put_w15, put_ra, put_r8, put_r0, put_rt, put_wa, u1, u2, hn8] at w186)
                        (try simp (disch := omega) only [put_r6, put_w6, put_r7, put_w7, put_r9, put_w9, put_r10, put_w10, put_r11, put_w11, put_r12, put_w12, put_r13, put_w13, put_r14, put_w14, put_r15, put_w15, put_ra, put_r8, put_r0, put_rt, put_wa, u1, u2, hn8])
                        first
                         | (exfalso; omega)
                         | (skip
                            refine e_iadd 190 dX12_next_189 rfl ?_
                            refine e_bipush 192 dX12_next_190 (by decide) rfl ?_
                            refine e_isub 193 dX12_next_192 rfl ?_
                            refine e_puti (j := 10) 196 fl_12_120 dX12_next_193 at_928 rfl rfl rfl (by omega) rfl ?_
                            refine e_aload_n (i := 0) 197 dX12_next_196 rfl rfl rfl ?_
                            refine e_dup 198 dX12_next_197 rfl rfl ?_
                            refine e_geti (j := 7) 201 fl_12_100 dX12_next_198 at_928 (by decide) rfl rfl (fun r198 => ?_)
                            simp (disch := omega) only [put_r6, put_w6, put_r7, put_w7, put_r9, put_w9, put_r10, put_w10, put_r11, put_w11, put_r12, put_w12, put_r13, put_w13, put_r14, put_w14, put_r15, put_w15, put_ra, put_r8, put_r0, put_rt, put_wa, u1, u2, hn8] at r198 ⊢
                            refine e_iconst 202 dX12_next_201 rfl ?_
                            refine e_iadd 203 dX12_next_202 rfl ?_
                            refine e_puti (j := 7) 206 fl_12_100 dX12_next_203 at_928 rfl rfl rfl (by omega) rfl ?_
                            refine e_goto 146 dX12_next_206 (by decide) ?_
                            omega)
                      · dsimp only [jpush]
                        (try simp (disch := omega) only [put_r6, put_w6, put_r7, put_w7, put_r9, put_w9, put_r10, put_w10, put_r11, put_w11, put_r12, put_w12, put_r13, put_w13, put_r14, put_w14, put_r15, put_w15, put_ra, put_r8, put_r0, put_rt, put_wa, u1, u2, hn8] at w186)
                        (try simp (disch := omega) only [put_r6, put_w6, put_r7, put_w7, put_r9, put_w9, put_r10, put_w10, put_r11, put_w11, put_r12, put_w12, put_r13, put_w13, put_r14, put_w14, put_r15, put_w15, put_ra, put_r8, put_r0, put_rt, put_wa, u1, u2, hn8])
                        first
                         | (exfalso; omega)
                         | (skip
                            refine e_iadd 190 dX12_next_189 rfl ?_
                            refine e_bipush 192 dX12_next_190 (by decide) rfl ?_
                            refine e_isub 193 dX12_next_192 rfl ?_
                            refine e_puti (j := 10) 196 fl_12_120 dX12_next_193 at_928 rfl rfl rfl (by omega) rfl ?_
                            refine e_aload_n (i := 0) 197 dX12_next_196 rfl rfl rfl ?_
                            refine e_dup 198 dX12_next_197 rfl rfl ?_
                            refine e_geti (j := 7) 201 fl_12_100 dX12_next_198 at_928 (by decide) rfl rfl (fun r198 => ?_)
                            simp (disch := omega) only [put_r6, put_w6, put_r7, put_w7, put_r9, put_w9, put_r10, put_w10, put_r11, put_w11, put_r12, put_w12, put_r13, put_w13, put_r14, put_w14, put_r15, put_w15, put_ra, put_r8, put_r0, put_rt, put_wa, u1, u2, hn8] at r198 ⊢
                            refine e_iconst 202 dX12_next_201 rfl ?_
                            refine e_iadd 203 dX12_next_202 rfl ?_
                            refine e_puti (j := 7) 206 fl_12_100 dX12_next_203 at_928 rfl rfl rfl (by omega) rfl ?_
                            refine e_goto 146 dX12_next_206 (by decide) ?_
                            omega)))
          · dsimp only [jpush]
            (try simp (disch := omega) only [put_r6, put_w6, put_r7, put_w7, put_r9, put_w9, put_r10, put_w10, put_r11, put_w11, put_r12, put_w12, put_r13, put_w13, put_r14, put_w14, put_r15, put_w15, put_ra, put_r8, put_r0, put_rt, put_wa, u1, u2, hn8] at w154)
            (try simp (disch := omega) only [put_r6, put_w6, put_r7, put_w7, put_r9, put_w9, put_r10, put_w10, put_r11, put_w11, put_r12, put_w12, put_r13, put_w13, put_r14, put_w14, put_r15, put_w15, put_ra, put_r8, put_r0, put_rt, put_wa, u1, u2, hn8])
            first
             | (exfalso; omega)
             | (skip
                refine e_if_eq 160 209 dX12_next_157 (by decide) (by decide) rfl (fun _ => ?_) (fun h => absurd h (by decide))
                exact h))
    · dsimp only [jpush]
      (try simp (disch := omega) only [put_r6, put_w6, put_r7, put_w7, put_r9, put_w9, put_r10, put_w10, put_r11, put_w11, put_r12, put_w12, put_r13, put_w13, put_r14, put_w14, put_r15, put_w15, put_ra, put_r8, put_r0, put_rt, put_wa, u1, u2, hn8] at w151)
      (try simp (disch := omega) only [put_r6, put_w6, put_r7, put_w7, put_r9, put_w9, put_r10, put_w10, put_r11, put_w11, put_r12, put_w12, put_r13, put_w13, put_r14, put_w14, put_r15, put_w15, put_ra, put_r8, put_r0, put_rt, put_wa, u1, u2, hn8])
      first
       | (exfalso; omega)
       | (skip
          refine e_callS 157 mt_yX12_isDigit ms_yX12_isDigit wd_1411 (by decide) dX12_next_154 rfl rfl (Nat.le_of_ble_eq_true rfl) (jroom (by decide)) rfl (m_isDigit (by (try simp (disch := omega) only [put_r6, put_w6, put_r7, put_w7, put_r9, put_w9, put_r10, put_w10, put_r11, put_w11, put_r12, put_w12, put_r13, put_w13, put_r14, put_w14, put_r15, put_w15, put_ra, put_r8, put_r0, put_rt, put_wa, u1, u2, hn8]); omega) (fun w154 => ?_) (fun w154 => ?_))
          · dsimp only [jpush]
            (try simp (disch := omega) only [put_r6, put_w6, put_r7, put_w7, put_r9, put_w9, put_r10, put_w10, put_r11, put_w11, put_r12, put_w12, put_r13, put_w13, put_r14, put_w14, put_r15, put_w15, put_ra, put_r8, put_r0, put_rt, put_wa, u1, u2, hn8] at w154)
            (try simp (disch := omega) only [put_r6, put_w6, put_r7, put_w7, put_r9, put_w9, put_r10, put_w10, put_r11, put_w11, put_r12, put_w12, put_r13, put_w13, put_r14, put_w14, put_r15, put_w15, put_ra, put_r8, put_r0, put_rt, put_wa, u1, u2, hn8])
            first
             | (exfalso; omega)
             | (skip
                refine e_if_eq 160 209 dX12_next_157 (by decide) (by decide) rfl (fun h => absurd h (by decide)) (fun _ => ?_)
                refine e_aload_n (i := 0) 161 dX12_next_160 rfl rfl rfl ?_
                refine e_geti (j := 7) 164 fl_12_100 dX12_next_161 at_928 (by decide) rfl rfl (fun r161 => ?_)
                simp (disch := omega) only [put_r6, put_w6, put_r7, put_w7, put_r9, put_w9, put_r10, put_w10, put_r11, put_w11, put_r12, put_w12, put_r13, put_w13, put_r14, put_w14, put_r15, put_w15, put_ra, put_r8, put_r0, put_rt, put_wa, u1, u2, hn8] at r161 ⊢
                refine e_aload_n (i := 0) 165 dX12_next_164 rfl rfl rfl ?_
                refine e_geti (j := 6) 168 fl_12_97 dX12_next_165 at_928 (by decide) rfl rfl (fun r165 => ?_)
                simp (disch := omega) only [put_r6, put_w6, put_r7, put_w7, put_r9, put_w9, put_r10, put_w10, put_r11, put_w11, put_r12, put_w12, put_r13, put_w13, put_r14, put_w14, put_r15, put_w15, put_ra, put_r8, put_r0, put_rt, put_wa, u1, u2, hn8] at r165 ⊢
                refine e_isub 169 dX12_next_168 rfl ?_
                refine e_iconst 170 dX12_next_169 rfl ?_
                refine e_icmp_ge 173 196 dX12_next_170 (by omega) (by decide) (by decide) rfl (fun b170 => ?_) (fun b170 => ?_)
                · first
                   | (exfalso; omega)
                   | (skip
                      refine e_aload_n (i := 0) 197 dX12_next_196 rfl rfl rfl ?_
                      refine e_dup 198 dX12_next_197 rfl rfl ?_
                      refine e_geti (j := 7) 201 fl_12_100 dX12_next_198 at_928 (by decide) rfl rfl (fun r198 => ?_)
                      simp (disch := omega) only [put_r6, put_w6, put_r7, put_w7, put_r9, put_w9, put_r10, put_w10, put_r11, put_w11, put_r12, put_w12, put_r13, put_w13, put_r14, put_w14, put_r15, put_w15, put_ra, put_r8, put_r0, put_rt, put_wa, u1, u2, hn8] at r198 ⊢
                      refine e_iconst 202 dX12_next_201 rfl ?_
                      refine e_iadd 203 dX12_next_202 rfl ?_
                      refine e_puti (j := 7) 206 fl_12_100 dX12_next_203 at_928 rfl rfl rfl (by omega) rfl ?_
                      refine e_goto 146 dX12_next_206 (by decide) ?_
                      omega)
                · first
                   | (exfalso; omega)
                   | (skip
                      refine e_aload_n (i := 0) 174 dX12_next_173 rfl rfl rfl ?_
                      refine e_bipush 176 dX12_next_174 (by decide) rfl ?_
                      refine e_aload_n (i := 0) 177 dX12_next_176 rfl rfl rfl ?_
                      refine e_geti (j := 10) 180 fl_12_120 dX12_next_177 at_928 (by decide) rfl rfl (fun r177 => ?_)
                      simp (disch := omega) only [put_r6, put_w6, put_r7, put_w7, put_r9, put_w9, put_r10, put_w10, put_r11, put_w11, put_r12, put_w12, put_r13, put_w13, put_r14, put_w14, put_r15, put_w15, put_ra, put_r8, put_r0, put_rt, put_wa, u1, u2, hn8] at r177 ⊢
                      refine e_imul 181 dX12_next_180 rfl ?_
                      refine e_aload_n (i := 0) 182 dX12_next_181 rfl rfl rfl ?_
                      refine e_aload_n (i := 0) 183 dX12_next_182 rfl rfl rfl ?_
                      refine e_geti (j := 7) 186 fl_12_100 dX12_next_183 at_928 (by decide) rfl rfl (fun r183 => ?_)
                      simp (disch := omega) only [put_r6, put_w6, put_r7, put_w7, put_r9, put_w9, put_r10, put_w10, put_r11, put_w11, put_r12, put_w12, put_r13, put_w13, put_r14, put_w14, put_r15, put_w15, put_ra, put_r8, put_r0, put_rt, put_wa, u1, u2, hn8] at r183 ⊢
                      refine e_callV 189 mt_yX12_see mv_yX12_see wd_1397 (by decide) dX12_next_186 at_928 jc_12 rfl rfl rfl (Nat.le_of_ble_eq_true rfl) (jroom (by decide)) rfl (m_see hT (by (try simp (disch := omega) only [put_r6, put_w6, put_r7, put_w7, put_r9, put_w9, put_r10, put_w10, put_r11, put_w11, put_r12, put_w12, put_r13, put_w13, put_r14, put_w14, put_r15, put_w15, put_ra, put_r8, put_r0, put_rt, put_wa, u1, u2, hn8]); omega) (fun w186 => ?_) (fun w186 => ?_))
                      · dsimp only [jpush]
                        (try simp (disch := omega) only [put_r6, put_w6, put_r7, put_w7, put_r9, put_w9, put_r10, put_w10, put_r11, put_w11, put_r12, put_w12, put_r13, put_w13, put_r14, put_w14, put_r15, put_w15, put_ra, put_r8, put_r0, put_rt, put_wa, u1, u2, hn8] at w186)
                        (try simp (disch := omega) only [put_r6, put_w6, put_r7, put_w7, put_r9, put_w9, put_r10, put_w10, put_r11, put_w11, put_r12, put_w12, put_r13, put_w13, put_r14, put_w14, put_r15, put_w15, put_ra, put_r8, put_r0, put_rt, put_wa, u1, u2, hn8])
                        first
                         | (exfalso; omega)
                         | (skip
                            refine e_iadd 190 dX12_next_189 rfl ?_
                            refine e_bipush 192 dX12_next_190 (by decide) rfl ?_
                            refine e_isub 193 dX12_next_192 rfl ?_
                            refine e_puti (j := 10) 196 fl_12_120 dX12_next_193 at_928 rfl rfl rfl (by omega) rfl ?_
                            refine e_aload_n (i := 0) 197 dX12_next_196 rfl rfl rfl ?_
                            refine e_dup 198 dX12_next_197 rfl rfl ?_
                            refine e_geti (j := 7) 201 fl_12_100 dX12_next_198 at_928 (by decide) rfl rfl (fun r198 => ?_)
                            simp (disch := omega) only [put_r6, put_w6, put_r7, put_w7, put_r9, put_w9, put_r10, put_w10, put_r11, put_w11, put_r12, put_w12, put_r13, put_w13, put_r14, put_w14, put_r15, put_w15, put_ra, put_r8, put_r0, put_rt, put_wa, u1, u2, hn8] at r198 ⊢
                            refine e_iconst 202 dX12_next_201 rfl ?_
                            refine e_iadd 203 dX12_next_202 rfl ?_
                            refine e_puti (j := 7) 206 fl_12_100 dX12_next_203 at_928 rfl rfl rfl (by omega) rfl ?_
                            refine e_goto 146 dX12_next_206 (by decide) ?_
                            omega)
                      · dsimp only [jpush]
                        (try simp (disch := omega) only [put_r6, put_w6, put_r7, put_w7, put_r9, put_w9, put_r10, put_w10, put_r11, put_w11, put_r12, put_w12, put_r13, put_w13, put_r14, put_w14, put_r15, put_w15, put_ra, put_r8, put_r0, put_rt, put_wa, u1, u2, hn8] at w186)
                        (try simp (disch := omega) only [put_r6, put_w6, put_r7, put_w7, put_r9, put_w9, put_r10, put_w10, put_r11, put_w11, put_r12, put_w12, put_r13, put_w13, put_r14, put_w14, put_r15, put_w15, put_ra, put_r8, put_r0, put_rt, put_wa, u1, u2, hn8])
                        first
                         | (exfalso; omega)
                         | (skip
                            refine e_iadd 190 dX12_next_189 rfl ?_
                            refine e_bipush 192 dX12_next_190 (by decide) rfl ?_
                            refine e_isub 193 dX12_next_192 rfl ?_
                            refine e_puti (j := 10) 196 fl_12_120 dX12_next_193 at_928 rfl rfl rfl (by omega) rfl ?_
                            refine e_aload_n (i := 0) 197 dX12_next_196 rfl rfl rfl ?_
                            refine e_dup 198 dX12_next_197 rfl rfl ?_
                            refine e_geti (j := 7) 201 fl_12_100 dX12_next_198 at_928 (by decide) rfl rfl (fun r198 => ?_)
                            simp (disch := omega) only [put_r6, put_w6, put_r7, put_w7, put_r9, put_w9, put_r10, put_w10, put_r11, put_w11, put_r12, put_w12, put_r13, put_w13, put_r14, put_w14, put_r15, put_w15, put_ra, put_r8, put_r0, put_rt, put_wa, u1, u2, hn8] at r198 ⊢
                            refine e_iconst 202 dX12_next_201 rfl ?_
                            refine e_iadd 203 dX12_next_202 rfl ?_
                            refine e_puti (j := 7) 206 fl_12_100 dX12_next_203 at_928 rfl rfl rfl (by omega) rfl ?_
                            refine e_goto 146 dX12_next_206 (by decide) ?_
                            omega)))
          · dsimp only [jpush]
            (try simp (disch := omega) only [put_r6, put_w6, put_r7, put_w7, put_r9, put_w9, put_r10, put_w10, put_r11, put_w11, put_r12, put_w12, put_r13, put_w13, put_r14, put_w14, put_r15, put_w15, put_ra, put_r8, put_r0, put_rt, put_wa, u1, u2, hn8] at w154)
            (try simp (disch := omega) only [put_r6, put_w6, put_r7, put_w7, put_r9, put_w9, put_r10, put_w10, put_r11, put_w11, put_r12, put_w12, put_r13, put_w13, put_r14, put_w14, put_r15, put_w15, put_ra, put_r8, put_r0, put_rt, put_wa, u1, u2, hn8])
            first
             | (exfalso; omega)
             | (skip
                refine e_if_eq 160 209 dX12_next_157 (by decide) (by decide) rfl (fun _ => ?_) (fun h => absurd h (by decide))
                exact h))
  | succ f ih =>
    intro x x0 hx h
    rw [tDg] at h
    have hby := hT.2.2 x (by omega) (by omega)
    have hnr := tNum_in (t := M 931) (p := q) (k := x - q) (fun i a b => hT.2.2 i (by omega) (by omega))
    have hst : x - q < 3 → 10 * tNum (M 931) q (x - q) + M 931 x - 48 = tNum (M 931) q (x + 1 - q) := fun hl => by
      have e := tNum_s (t := M 931) (p := q) (k := x - q) (by omega) hl
      rw [show q + (x - q) = x by omega, show x - q + 1 = x + 1 - q by omega] at e
      exact e
    have hen : 3 ≤ x - q → tNum (M 931) q (x - q) = tNum (M 931) q (x + 1 - q) := fun hl => by
      have e := tNum_e (t := M 931) (p := q) (k := x - q) hl
      rw [show x - q + 1 = x + 1 - q by omega] at e
      exact e.symm
    have hn8 := hT.1
    have hn := hT.2.1
    refine e_aload_n (i := 0) 147 dX12_next_146 rfl rfl rfl ?_
    refine e_aload_n (i := 0) 148 dX12_next_147 rfl rfl rfl ?_
    refine e_geti (j := 7) 151 fl_12_100 dX12_next_148 at_928 (by decide) rfl rfl (fun r148 => ?_)
    simp (disch := omega) only [put_r6, put_w6, put_r7, put_w7, put_r9, put_w9, put_r10, put_w10, put_r11, put_w11, put_r12, put_w12, put_r13, put_w13, put_r14, put_w14, put_r15, put_w15, put_ra, put_r8, put_r0, put_rt, put_wa, u1, u2, hn8] at r148 ⊢
    refine e_callV 154 mt_yX12_see mv_yX12_see wd_1397 (by decide) dX12_next_151 at_928 jc_12 rfl rfl rfl (Nat.le_of_ble_eq_true rfl) (jroom (by decide)) rfl (m_see hT (by (try simp (disch := omega) only [put_r6, put_w6, put_r7, put_w7, put_r9, put_w9, put_r10, put_w10, put_r11, put_w11, put_r12, put_w12, put_r13, put_w13, put_r14, put_w14, put_r15, put_w15, put_ra, put_r8, put_r0, put_rt, put_wa, u1, u2, hn8]); omega) (fun w151 => ?_) (fun w151 => ?_))
    · dsimp only [jpush]
      (try simp (disch := omega) only [put_r6, put_w6, put_r7, put_w7, put_r9, put_w9, put_r10, put_w10, put_r11, put_w11, put_r12, put_w12, put_r13, put_w13, put_r14, put_w14, put_r15, put_w15, put_ra, put_r8, put_r0, put_rt, put_wa, u1, u2, hn8] at w151)
      (try simp (disch := omega) only [put_r6, put_w6, put_r7, put_w7, put_r9, put_w9, put_r10, put_w10, put_r11, put_w11, put_r12, put_w12, put_r13, put_w13, put_r14, put_w14, put_r15, put_w15, put_ra, put_r8, put_r0, put_rt, put_wa, u1, u2, hn8])
      first
       | (exfalso; omega)
       | (skip
          refine e_callS 157 mt_yX12_isDigit ms_yX12_isDigit wd_1411 (by decide) dX12_next_154 rfl rfl (Nat.le_of_ble_eq_true rfl) (jroom (by decide)) rfl (m_isDigit (by (try simp (disch := omega) only [put_r6, put_w6, put_r7, put_w7, put_r9, put_w9, put_r10, put_w10, put_r11, put_w11, put_r12, put_w12, put_r13, put_w13, put_r14, put_w14, put_r15, put_w15, put_ra, put_r8, put_r0, put_rt, put_wa, u1, u2, hn8]); omega) (fun w154 => ?_) (fun w154 => ?_))
          · dsimp only [jpush]
            (try simp (disch := omega) only [put_r6, put_w6, put_r7, put_w7, put_r9, put_w9, put_r10, put_w10, put_r11, put_w11, put_r12, put_w12, put_r13, put_w13, put_r14, put_w14, put_r15, put_w15, put_ra, put_r8, put_r0, put_rt, put_wa, u1, u2, hn8] at w154)
            (try simp (disch := omega) only [put_r6, put_w6, put_r7, put_w7, put_r9, put_w9, put_r10, put_w10, put_r11, put_w11, put_r12, put_w12, put_r13, put_w13, put_r14, put_w14, put_r15, put_w15, put_ra, put_r8, put_r0, put_rt, put_wa, u1, u2, hn8])
            first
             | (exfalso; omega)
             | (skip
                refine e_if_eq 160 209 dX12_next_157 (by decide) (by decide) rfl (fun h => absurd h (by decide)) (fun _ => ?_)
                refine e_aload_n (i := 0) 161 dX12_next_160 rfl rfl rfl ?_
                refine e_geti (j := 7) 164 fl_12_100 dX12_next_161 at_928 (by decide) rfl rfl (fun r161 => ?_)
                simp (disch := omega) only [put_r6, put_w6, put_r7, put_w7, put_r9, put_w9, put_r10, put_w10, put_r11, put_w11, put_r12, put_w12, put_r13, put_w13, put_r14, put_w14, put_r15, put_w15, put_ra, put_r8, put_r0, put_rt, put_wa, u1, u2, hn8] at r161 ⊢
                refine e_aload_n (i := 0) 165 dX12_next_164 rfl rfl rfl ?_
                refine e_geti (j := 6) 168 fl_12_97 dX12_next_165 at_928 (by decide) rfl rfl (fun r165 => ?_)
                simp (disch := omega) only [put_r6, put_w6, put_r7, put_w7, put_r9, put_w9, put_r10, put_w10, put_r11, put_w11, put_r12, put_w12, put_r13, put_w13, put_r14, put_w14, put_r15, put_w15, put_ra, put_r8, put_r0, put_rt, put_wa, u1, u2, hn8] at r165 ⊢
                refine e_isub 169 dX12_next_168 rfl ?_
                refine e_iconst 170 dX12_next_169 rfl ?_
                refine e_icmp_ge 173 196 dX12_next_170 (by omega) (by decide) (by decide) rfl (fun b170 => ?_) (fun b170 => ?_)
                · first
                   | (exfalso; omega)
                   | (skip
                      refine e_aload_n (i := 0) 197 dX12_next_196 rfl rfl rfl ?_
                      refine e_dup 198 dX12_next_197 rfl rfl ?_
                      refine e_geti (j := 7) 201 fl_12_100 dX12_next_198 at_928 (by decide) rfl rfl (fun r198 => ?_)
                      simp (disch := omega) only [put_r6, put_w6, put_r7, put_w7, put_r9, put_w9, put_r10, put_w10, put_r11, put_w11, put_r12, put_w12, put_r13, put_w13, put_r14, put_w14, put_r15, put_w15, put_ra, put_r8, put_r0, put_rt, put_wa, u1, u2, hn8] at r198 ⊢
                      refine e_iconst 202 dX12_next_201 rfl ?_
                      refine e_iadd 203 dX12_next_202 rfl ?_
                      refine e_puti (j := 7) 206 fl_12_100 dX12_next_203 at_928 rfl rfl rfl (by omega) rfl ?_
                      refine e_goto 146 dX12_next_206 (by decide) ?_
                      rw [if_pos (by omega)] at h
                      simp (disch := omega) only [put_r6, put_w6, put_r7, put_w7, put_r9, put_w9, put_r10, put_w10, put_r11, put_w11, put_r12, put_w12, put_r13, put_w13, put_r14, put_w14, put_r15, put_w15, put_ra, put_r8, put_r0, put_rt, put_wa, u1, u2, hn8]
                      rw [hen (by omega)]
                      exact ih (x + 1) (by omega) (by omega) h)
                · first
                   | (exfalso; omega)
                   | (skip
                      refine e_aload_n (i := 0) 174 dX12_next_173 rfl rfl rfl ?_
                      refine e_bipush 176 dX12_next_174 (by decide) rfl ?_
                      refine e_aload_n (i := 0) 177 dX12_next_176 rfl rfl rfl ?_
                      refine e_geti (j := 10) 180 fl_12_120 dX12_next_177 at_928 (by decide) rfl rfl (fun r177 => ?_)
                      simp (disch := omega) only [put_r6, put_w6, put_r7, put_w7, put_r9, put_w9, put_r10, put_w10, put_r11, put_w11, put_r12, put_w12, put_r13, put_w13, put_r14, put_w14, put_r15, put_w15, put_ra, put_r8, put_r0, put_rt, put_wa, u1, u2, hn8] at r177 ⊢
                      refine e_imul 181 dX12_next_180 rfl ?_
                      refine e_aload_n (i := 0) 182 dX12_next_181 rfl rfl rfl ?_
                      refine e_aload_n (i := 0) 183 dX12_next_182 rfl rfl rfl ?_
                      refine e_geti (j := 7) 186 fl_12_100 dX12_next_183 at_928 (by decide) rfl rfl (fun r183 => ?_)
                      simp (disch := omega) only [put_r6, put_w6, put_r7, put_w7, put_r9, put_w9, put_r10, put_w10, put_r11, put_w11, put_r12, put_w12, put_r13, put_w13, put_r14, put_w14, put_r15, put_w15, put_ra, put_r8, put_r0, put_rt, put_wa, u1, u2, hn8] at r183 ⊢
                      refine e_callV 189 mt_yX12_see mv_yX12_see wd_1397 (by decide) dX12_next_186 at_928 jc_12 rfl rfl rfl (Nat.le_of_ble_eq_true rfl) (jroom (by decide)) rfl (m_see hT (by (try simp (disch := omega) only [put_r6, put_w6, put_r7, put_w7, put_r9, put_w9, put_r10, put_w10, put_r11, put_w11, put_r12, put_w12, put_r13, put_w13, put_r14, put_w14, put_r15, put_w15, put_ra, put_r8, put_r0, put_rt, put_wa, u1, u2, hn8]); omega) (fun w186 => ?_) (fun w186 => ?_))
                      · dsimp only [jpush]
                        (try simp (disch := omega) only [put_r6, put_w6, put_r7, put_w7, put_r9, put_w9, put_r10, put_w10, put_r11, put_w11, put_r12, put_w12, put_r13, put_w13, put_r14, put_w14, put_r15, put_w15, put_ra, put_r8, put_r0, put_rt, put_wa, u1, u2, hn8] at w186)
                        (try simp (disch := omega) only [put_r6, put_w6, put_r7, put_w7, put_r9, put_w9, put_r10, put_w10, put_r11, put_w11, put_r12, put_w12, put_r13, put_w13, put_r14, put_w14, put_r15, put_w15, put_ra, put_r8, put_r0, put_rt, put_wa, u1, u2, hn8])
                        first
                         | (exfalso; omega)
                         | (skip
                            refine e_iadd 190 dX12_next_189 rfl ?_
                            refine e_bipush 192 dX12_next_190 (by decide) rfl ?_
                            refine e_isub 193 dX12_next_192 rfl ?_
                            refine e_puti (j := 10) 196 fl_12_120 dX12_next_193 at_928 rfl rfl rfl (by omega) rfl ?_
                            refine e_aload_n (i := 0) 197 dX12_next_196 rfl rfl rfl ?_
                            refine e_dup 198 dX12_next_197 rfl rfl ?_
                            refine e_geti (j := 7) 201 fl_12_100 dX12_next_198 at_928 (by decide) rfl rfl (fun r198 => ?_)
                            simp (disch := omega) only [put_r6, put_w6, put_r7, put_w7, put_r9, put_w9, put_r10, put_w10, put_r11, put_w11, put_r12, put_w12, put_r13, put_w13, put_r14, put_w14, put_r15, put_w15, put_ra, put_r8, put_r0, put_rt, put_wa, u1, u2, hn8] at r198 ⊢
                            refine e_iconst 202 dX12_next_201 rfl ?_
                            refine e_iadd 203 dX12_next_202 rfl ?_
                            refine e_puti (j := 7) 206 fl_12_100 dX12_next_203 at_928 rfl rfl rfl (by omega) rfl ?_
                            refine e_goto 146 dX12_next_206 (by decide) ?_
                            rw [if_pos (by omega)] at h
                            simp (disch := omega) only [put_r6, put_w6, put_r7, put_w7, put_r9, put_w9, put_r10, put_w10, put_r11, put_w11, put_r12, put_w12, put_r13, put_w13, put_r14, put_w14, put_r15, put_w15, put_ra, put_r8, put_r0, put_rt, put_wa, u1, u2, hn8]
                            rw [hst (by omega)]
                            exact ih (x + 1) (by omega) (by omega) h)
                      · dsimp only [jpush]
                        (try simp (disch := omega) only [put_r6, put_w6, put_r7, put_w7, put_r9, put_w9, put_r10, put_w10, put_r11, put_w11, put_r12, put_w12, put_r13, put_w13, put_r14, put_w14, put_r15, put_w15, put_ra, put_r8, put_r0, put_rt, put_wa, u1, u2, hn8] at w186)
                        (try simp (disch := omega) only [put_r6, put_w6, put_r7, put_w7, put_r9, put_w9, put_r10, put_w10, put_r11, put_w11, put_r12, put_w12, put_r13, put_w13, put_r14, put_w14, put_r15, put_w15, put_ra, put_r8, put_r0, put_rt, put_wa, u1, u2, hn8])
                        first
                         | (exfalso; omega)
                         | (skip
                            refine e_iadd 190 dX12_next_189 rfl ?_
                            refine e_bipush 192 dX12_next_190 (by decide) rfl ?_
                            refine e_isub 193 dX12_next_192 rfl ?_
                            refine e_puti (j := 10) 196 fl_12_120 dX12_next_193 at_928 rfl rfl rfl (by omega) rfl ?_
                            refine e_aload_n (i := 0) 197 dX12_next_196 rfl rfl rfl ?_
                            refine e_dup 198 dX12_next_197 rfl rfl ?_
                            refine e_geti (j := 7) 201 fl_12_100 dX12_next_198 at_928 (by decide) rfl rfl (fun r198 => ?_)
                            simp (disch := omega) only [put_r6, put_w6, put_r7, put_w7, put_r9, put_w9, put_r10, put_w10, put_r11, put_w11, put_r12, put_w12, put_r13, put_w13, put_r14, put_w14, put_r15, put_w15, put_ra, put_r8, put_r0, put_rt, put_wa, u1, u2, hn8] at r198 ⊢
                            refine e_iconst 202 dX12_next_201 rfl ?_
                            refine e_iadd 203 dX12_next_202 rfl ?_
                            refine e_puti (j := 7) 206 fl_12_100 dX12_next_203 at_928 rfl rfl rfl (by omega) rfl ?_
                            refine e_goto 146 dX12_next_206 (by decide) ?_
                            rw [if_pos (by omega)] at h
                            simp (disch := omega) only [put_r6, put_w6, put_r7, put_w7, put_r9, put_w9, put_r10, put_w10, put_r11, put_w11, put_r12, put_w12, put_r13, put_w13, put_r14, put_w14, put_r15, put_w15, put_ra, put_r8, put_r0, put_rt, put_wa, u1, u2, hn8]
                            rw [hst (by omega)]
                            exact ih (x + 1) (by omega) (by omega) h)))
          · dsimp only [jpush]
            (try simp (disch := omega) only [put_r6, put_w6, put_r7, put_w7, put_r9, put_w9, put_r10, put_w10, put_r11, put_w11, put_r12, put_w12, put_r13, put_w13, put_r14, put_w14, put_r15, put_w15, put_ra, put_r8, put_r0, put_rt, put_wa, u1, u2, hn8] at w154)
            (try simp (disch := omega) only [put_r6, put_w6, put_r7, put_w7, put_r9, put_w9, put_r10, put_w10, put_r11, put_w11, put_r12, put_w12, put_r13, put_w13, put_r14, put_w14, put_r15, put_w15, put_ra, put_r8, put_r0, put_rt, put_wa, u1, u2, hn8])
            first
             | (exfalso; omega)
             | (skip
                refine e_if_eq 160 209 dX12_next_157 (by decide) (by decide) rfl (fun _ => ?_) (fun h => absurd h (by decide))
                rw [if_neg (by omega)] at h
                exact h))
    · dsimp only [jpush]
      (try simp (disch := omega) only [put_r6, put_w6, put_r7, put_w7, put_r9, put_w9, put_r10, put_w10, put_r11, put_w11, put_r12, put_w12, put_r13, put_w13, put_r14, put_w14, put_r15, put_w15, put_ra, put_r8, put_r0, put_rt, put_wa, u1, u2, hn8] at w151)
      (try simp (disch := omega) only [put_r6, put_w6, put_r7, put_w7, put_r9, put_w9, put_r10, put_w10, put_r11, put_w11, put_r12, put_w12, put_r13, put_w13, put_r14, put_w14, put_r15, put_w15, put_ra, put_r8, put_r0, put_rt, put_wa, u1, u2, hn8])
      first
       | (exfalso; omega)
       | (skip
          refine e_callS 157 mt_yX12_isDigit ms_yX12_isDigit wd_1411 (by decide) dX12_next_154 rfl rfl (Nat.le_of_ble_eq_true rfl) (jroom (by decide)) rfl (m_isDigit (by (try simp (disch := omega) only [put_r6, put_w6, put_r7, put_w7, put_r9, put_w9, put_r10, put_w10, put_r11, put_w11, put_r12, put_w12, put_r13, put_w13, put_r14, put_w14, put_r15, put_w15, put_ra, put_r8, put_r0, put_rt, put_wa, u1, u2, hn8]); omega) (fun w154 => ?_) (fun w154 => ?_))
          · dsimp only [jpush]
            (try simp (disch := omega) only [put_r6, put_w6, put_r7, put_w7, put_r9, put_w9, put_r10, put_w10, put_r11, put_w11, put_r12, put_w12, put_r13, put_w13, put_r14, put_w14, put_r15, put_w15, put_ra, put_r8, put_r0, put_rt, put_wa, u1, u2, hn8] at w154)
            (try simp (disch := omega) only [put_r6, put_w6, put_r7, put_w7, put_r9, put_w9, put_r10, put_w10, put_r11, put_w11, put_r12, put_w12, put_r13, put_w13, put_r14, put_w14, put_r15, put_w15, put_ra, put_r8, put_r0, put_rt, put_wa, u1, u2, hn8])
            first
             | (exfalso; omega)
             | (skip
                refine e_if_eq 160 209 dX12_next_157 (by decide) (by decide) rfl (fun h => absurd h (by decide)) (fun _ => ?_)
                refine e_aload_n (i := 0) 161 dX12_next_160 rfl rfl rfl ?_
                refine e_geti (j := 7) 164 fl_12_100 dX12_next_161 at_928 (by decide) rfl rfl (fun r161 => ?_)
                simp (disch := omega) only [put_r6, put_w6, put_r7, put_w7, put_r9, put_w9, put_r10, put_w10, put_r11, put_w11, put_r12, put_w12, put_r13, put_w13, put_r14, put_w14, put_r15, put_w15, put_ra, put_r8, put_r0, put_rt, put_wa, u1, u2, hn8] at r161 ⊢
                refine e_aload_n (i := 0) 165 dX12_next_164 rfl rfl rfl ?_
                refine e_geti (j := 6) 168 fl_12_97 dX12_next_165 at_928 (by decide) rfl rfl (fun r165 => ?_)
                simp (disch := omega) only [put_r6, put_w6, put_r7, put_w7, put_r9, put_w9, put_r10, put_w10, put_r11, put_w11, put_r12, put_w12, put_r13, put_w13, put_r14, put_w14, put_r15, put_w15, put_ra, put_r8, put_r0, put_rt, put_wa, u1, u2, hn8] at r165 ⊢
                refine e_isub 169 dX12_next_168 rfl ?_
                refine e_iconst 170 dX12_next_169 rfl ?_
                refine e_icmp_ge 173 196 dX12_next_170 (by omega) (by decide) (by decide) rfl (fun b170 => ?_) (fun b170 => ?_)
                · first
                   | (exfalso; omega)
                   | (skip
                      refine e_aload_n (i := 0) 197 dX12_next_196 rfl rfl rfl ?_
                      refine e_dup 198 dX12_next_197 rfl rfl ?_
                      refine e_geti (j := 7) 201 fl_12_100 dX12_next_198 at_928 (by decide) rfl rfl (fun r198 => ?_)
                      simp (disch := omega) only [put_r6, put_w6, put_r7, put_w7, put_r9, put_w9, put_r10, put_w10, put_r11, put_w11, put_r12, put_w12, put_r13, put_w13, put_r14, put_w14, put_r15, put_w15, put_ra, put_r8, put_r0, put_rt, put_wa, u1, u2, hn8] at r198 ⊢
                      refine e_iconst 202 dX12_next_201 rfl ?_
                      refine e_iadd 203 dX12_next_202 rfl ?_
                      refine e_puti (j := 7) 206 fl_12_100 dX12_next_203 at_928 rfl rfl rfl (by omega) rfl ?_
                      refine e_goto 146 dX12_next_206 (by decide) ?_
                      rw [if_pos (by omega)] at h
                      simp (disch := omega) only [put_r6, put_w6, put_r7, put_w7, put_r9, put_w9, put_r10, put_w10, put_r11, put_w11, put_r12, put_w12, put_r13, put_w13, put_r14, put_w14, put_r15, put_w15, put_ra, put_r8, put_r0, put_rt, put_wa, u1, u2, hn8]
                      rw [hen (by omega)]
                      exact ih (x + 1) (by omega) (by omega) h)
                · first
                   | (exfalso; omega)
                   | (skip
                      refine e_aload_n (i := 0) 174 dX12_next_173 rfl rfl rfl ?_
                      refine e_bipush 176 dX12_next_174 (by decide) rfl ?_
                      refine e_aload_n (i := 0) 177 dX12_next_176 rfl rfl rfl ?_
                      refine e_geti (j := 10) 180 fl_12_120 dX12_next_177 at_928 (by decide) rfl rfl (fun r177 => ?_)
                      simp (disch := omega) only [put_r6, put_w6, put_r7, put_w7, put_r9, put_w9, put_r10, put_w10, put_r11, put_w11, put_r12, put_w12, put_r13, put_w13, put_r14, put_w14, put_r15, put_w15, put_ra, put_r8, put_r0, put_rt, put_wa, u1, u2, hn8] at r177 ⊢
                      refine e_imul 181 dX12_next_180 rfl ?_
                      refine e_aload_n (i := 0) 182 dX12_next_181 rfl rfl rfl ?_
                      refine e_aload_n (i := 0) 183 dX12_next_182 rfl rfl rfl ?_
                      refine e_geti (j := 7) 186 fl_12_100 dX12_next_183 at_928 (by decide) rfl rfl (fun r183 => ?_)
                      simp (disch := omega) only [put_r6, put_w6, put_r7, put_w7, put_r9, put_w9, put_r10, put_w10, put_r11, put_w11, put_r12, put_w12, put_r13, put_w13, put_r14, put_w14, put_r15, put_w15, put_ra, put_r8, put_r0, put_rt, put_wa, u1, u2, hn8] at r183 ⊢
                      refine e_callV 189 mt_yX12_see mv_yX12_see wd_1397 (by decide) dX12_next_186 at_928 jc_12 rfl rfl rfl (Nat.le_of_ble_eq_true rfl) (jroom (by decide)) rfl (m_see hT (by (try simp (disch := omega) only [put_r6, put_w6, put_r7, put_w7, put_r9, put_w9, put_r10, put_w10, put_r11, put_w11, put_r12, put_w12, put_r13, put_w13, put_r14, put_w14, put_r15, put_w15, put_ra, put_r8, put_r0, put_rt, put_wa, u1, u2, hn8]); omega) (fun w186 => ?_) (fun w186 => ?_))
                      · dsimp only [jpush]
                        (try simp (disch := omega) only [put_r6, put_w6, put_r7, put_w7, put_r9, put_w9, put_r10, put_w10, put_r11, put_w11, put_r12, put_w12, put_r13, put_w13, put_r14, put_w14, put_r15, put_w15, put_ra, put_r8, put_r0, put_rt, put_wa, u1, u2, hn8] at w186)
                        (try simp (disch := omega) only [put_r6, put_w6, put_r7, put_w7, put_r9, put_w9, put_r10, put_w10, put_r11, put_w11, put_r12, put_w12, put_r13, put_w13, put_r14, put_w14, put_r15, put_w15, put_ra, put_r8, put_r0, put_rt, put_wa, u1, u2, hn8])
                        first
                         | (exfalso; omega)
                         | (skip
                            refine e_iadd 190 dX12_next_189 rfl ?_
                            refine e_bipush 192 dX12_next_190 (by decide) rfl ?_
                            refine e_isub 193 dX12_next_192 rfl ?_
                            refine e_puti (j := 10) 196 fl_12_120 dX12_next_193 at_928 rfl rfl rfl (by omega) rfl ?_
                            refine e_aload_n (i := 0) 197 dX12_next_196 rfl rfl rfl ?_
                            refine e_dup 198 dX12_next_197 rfl rfl ?_
                            refine e_geti (j := 7) 201 fl_12_100 dX12_next_198 at_928 (by decide) rfl rfl (fun r198 => ?_)
                            simp (disch := omega) only [put_r6, put_w6, put_r7, put_w7, put_r9, put_w9, put_r10, put_w10, put_r11, put_w11, put_r12, put_w12, put_r13, put_w13, put_r14, put_w14, put_r15, put_w15, put_ra, put_r8, put_r0, put_rt, put_wa, u1, u2, hn8] at r198 ⊢
                            refine e_iconst 202 dX12_next_201 rfl ?_
                            refine e_iadd 203 dX12_next_202 rfl ?_
                            refine e_puti (j := 7) 206 fl_12_100 dX12_next_203 at_928 rfl rfl rfl (by omega) rfl ?_
                            refine e_goto 146 dX12_next_206 (by decide) ?_
                            rw [if_pos (by omega)] at h
                            simp (disch := omega) only [put_r6, put_w6, put_r7, put_w7, put_r9, put_w9, put_r10, put_w10, put_r11, put_w11, put_r12, put_w12, put_r13, put_w13, put_r14, put_w14, put_r15, put_w15, put_ra, put_r8, put_r0, put_rt, put_wa, u1, u2, hn8]
                            rw [hst (by omega)]
                            exact ih (x + 1) (by omega) (by omega) h)
                      · dsimp only [jpush]
                        (try simp (disch := omega) only [put_r6, put_w6, put_r7, put_w7, put_r9, put_w9, put_r10, put_w10, put_r11, put_w11, put_r12, put_w12, put_r13, put_w13, put_r14, put_w14, put_r15, put_w15, put_ra, put_r8, put_r0, put_rt, put_wa, u1, u2, hn8] at w186)
                        (try simp (disch := omega) only [put_r6, put_w6, put_r7, put_w7, put_r9, put_w9, put_r10, put_w10, put_r11, put_w11, put_r12, put_w12, put_r13, put_w13, put_r14, put_w14, put_r15, put_w15, put_ra, put_r8, put_r0, put_rt, put_wa, u1, u2, hn8])
                        first
                         | (exfalso; omega)
                         | (skip
                            refine e_iadd 190 dX12_next_189 rfl ?_
                            refine e_bipush 192 dX12_next_190 (by decide) rfl ?_
                            refine e_isub 193 dX12_next_192 rfl ?_
                            refine e_puti (j := 10) 196 fl_12_120 dX12_next_193 at_928 rfl rfl rfl (by omega) rfl ?_
                            refine e_aload_n (i := 0) 197 dX12_next_196 rfl rfl rfl ?_
                            refine e_dup 198 dX12_next_197 rfl rfl ?_
                            refine e_geti (j := 7) 201 fl_12_100 dX12_next_198 at_928 (by decide) rfl rfl (fun r198 => ?_)
                            simp (disch := omega) only [put_r6, put_w6, put_r7, put_w7, put_r9, put_w9, put_r10, put_w10, put_r11, put_w11, put_r12, put_w12, put_r13, put_w13, put_r14, put_w14, put_r15, put_w15, put_ra, put_r8, put_r0, put_rt, put_wa, u1, u2, hn8] at r198 ⊢
                            refine e_iconst 202 dX12_next_201 rfl ?_
                            refine e_iadd 203 dX12_next_202 rfl ?_
                            refine e_puti (j := 7) 206 fl_12_100 dX12_next_203 at_928 rfl rfl rfl (by omega) rfl ?_
                            refine e_goto 146 dX12_next_206 (by decide) ?_
                            rw [if_pos (by omega)] at h
                            simp (disch := omega) only [put_r6, put_w6, put_r7, put_w7, put_r9, put_w9, put_r10, put_w10, put_r11, put_w11, put_r12, put_w12, put_r13, put_w13, put_r14, put_w14, put_r15, put_w15, put_ra, put_r8, put_r0, put_rt, put_wa, u1, u2, hn8]
                            rw [hst (by omega)]
                            exact ih (x + 1) (by omega) (by omega) h)))
          · dsimp only [jpush]
            (try simp (disch := omega) only [put_r6, put_w6, put_r7, put_w7, put_r9, put_w9, put_r10, put_w10, put_r11, put_w11, put_r12, put_w12, put_r13, put_w13, put_r14, put_w14, put_r15, put_w15, put_ra, put_r8, put_r0, put_rt, put_wa, u1, u2, hn8] at w154)
            (try simp (disch := omega) only [put_r6, put_w6, put_r7, put_w7, put_r9, put_w9, put_r10, put_w10, put_r11, put_w11, put_r12, put_w12, put_r13, put_w13, put_r14, put_w14, put_r15, put_w15, put_ra, put_r8, put_r0, put_rt, put_wa, u1, u2, hn8])
            first
             | (exfalso; omega)
             | (skip
                refine e_if_eq 160 209 dX12_next_157 (by decide) (by decide) rfl (fun _ => ?_) (fun h => absurd h (by decide))
                rw [if_neg (by omega)] at h
                exact h))

theorem m_next {M : jM} {n : Int} {Q : Int → jM → Prop} (hT : RT M n) {s : PS} (hb : 0 ≤ s.2.1 ∧ s.2.1 ≤ n) (h : Q 0 (put M (pNext (M 931) n s))) : jCt yX12_next cX12_next 1 none 6 [jR 928] (put M s) Q := by
  refine jCt_of mt_yX12_next (Nat.le_of_ble_eq_true rfl) (fun X => ?_)
  have hn8 := hT.1
  have hn := hT.2.1
  have hr := tBl_rng (t := M 931) (n - s.2.1).toNat s.2.1
  unfold pNext tPl at h
  obtain ⟨q, hq⟩ : ∃ q, q = tBl (M 931) (n - s.2.1).toNat s.2.1 := ⟨_, rfl⟩
  rw [← hq] at h hr
  refine e_aload_n (i := 0) 1 dX12_next_0 rfl rfl rfl ?_
  refine e_aload_n (i := 0) 2 dX12_next_1 rfl rfl rfl ?_
  refine e_geti (j := 7) 5 fl_12_100 dX12_next_2 at_928 (by decide) rfl rfl (fun r2 => ?_)
  simp (disch := omega) only [put_r6, put_w6, put_r7, put_w7, put_r9, put_w9, put_r10, put_w10, put_r11, put_w11, put_r12, put_w12, put_r13, put_w13, put_r14, put_w14, put_r15, put_w15, put_ra, put_r8, put_r0, put_rt, put_wa, u1, u2, hn8] at r2 ⊢
  refine e_puti (j := 6) 8 fl_12_97 dX12_next_5 at_928 rfl rfl rfl (by omega) rfl ?_
  simp (disch := omega) only [put_r6, put_w6, put_r7, put_w7, put_r9, put_w9, put_r10, put_w10, put_r11, put_w11, put_r12, put_w12, put_r13, put_w13, put_r14, put_w14, put_r15, put_w15, put_ra, put_r8, put_r0, put_rt, put_wa, u1, u2, hn8]
  refine ln_b hT (n - s.2.1).toNat s.2.1 (by omega) (by omega) ?_
  rw [← hq]
  refine e_aload_n (i := 0) 48 dX12_next_47 rfl rfl rfl ?_
  refine e_aload_n (i := 0) 49 dX12_next_48 rfl rfl rfl ?_
  refine e_geti (j := 6) 52 fl_12_97 dX12_next_49 at_928 (by decide) rfl rfl (fun r49 => ?_)
  simp (disch := omega) only [put_r6, put_w6, put_r7, put_w7, put_r9, put_w9, put_r10, put_w10, put_r11, put_w11, put_r12, put_w12, put_r13, put_w13, put_r14, put_w14, put_r15, put_w15, put_ra, put_r8, put_r0, put_rt, put_wa, u1, u2, hn8] at r49 ⊢
  refine e_puti (j := 7) 55 fl_12_100 dX12_next_52 at_928 rfl rfl rfl (by omega) rfl ?_
  refine e_aload_n (i := 0) 56 dX12_next_55 rfl rfl rfl ?_
  refine e_geti (j := 6) 59 fl_12_97 dX12_next_56 at_928 (by decide) rfl rfl (fun r56 => ?_)
  simp (disch := omega) only [put_r6, put_w6, put_r7, put_w7, put_r9, put_w9, put_r10, put_w10, put_r11, put_w11, put_r12, put_w12, put_r13, put_w13, put_r14, put_w14, put_r15, put_w15, put_ra, put_r8, put_r0, put_rt, put_wa, u1, u2, hn8] at r56 ⊢
  refine e_aload_n (i := 0) 60 dX12_next_59 rfl rfl rfl ?_
  refine e_geti (j := 8) 63 fl_12_82 dX12_next_60 at_928 (by decide) rfl rfl (fun r60 => ?_)
  simp (disch := omega) only [put_r6, put_w6, put_r7, put_w7, put_r9, put_w9, put_r10, put_w10, put_r11, put_w11, put_r12, put_w12, put_r13, put_w13, put_r14, put_w14, put_r15, put_w15, put_ra, put_r8, put_r0, put_rt, put_wa, u1, u2, hn8] at r60 ⊢
  refine e_icmp_lt 66 75 dX12_next_63 (by omega) (by omega) (by decide) rfl (fun b63 => ?_) (fun b63 => ?_)
  · first
     | (exfalso; omega)
     | (skip
        have hby := hT.2.2 q (by omega) (by omega)
        refine e_aload_n (i := 0) 76 dX12_next_75 rfl rfl rfl ?_
        refine e_aload_n (i := 0) 77 dX12_next_76 rfl rfl rfl ?_
        refine e_geti (j := 6) 80 fl_12_97 dX12_next_77 at_928 (by decide) rfl rfl (fun r77 => ?_)
        simp (disch := omega) only [put_r6, put_w6, put_r7, put_w7, put_r9, put_w9, put_r10, put_w10, put_r11, put_w11, put_r12, put_w12, put_r13, put_w13, put_r14, put_w14, put_r15, put_w15, put_ra, put_r8, put_r0, put_rt, put_wa, u1, u2, hn8] at r77 ⊢
        refine e_callV 83 mt_yX12_see mv_yX12_see wd_1397 (by decide) dX12_next_80 at_928 jc_12 rfl rfl rfl (Nat.le_of_ble_eq_true rfl) (jroom (by decide)) rfl (m_see hT (by (try simp (disch := omega) only [put_r6, put_w6, put_r7, put_w7, put_r9, put_w9, put_r10, put_w10, put_r11, put_w11, put_r12, put_w12, put_r13, put_w13, put_r14, put_w14, put_r15, put_w15, put_ra, put_r8, put_r0, put_rt, put_wa, u1, u2, hn8]); omega) (fun w80 => ?_) (fun w80 => ?_))
        · dsimp only [jpush]
          (try simp (disch := omega) only [put_r6, put_w6, put_r7, put_w7, put_r9, put_w9, put_r10, put_w10, put_r11, put_w11, put_r12, put_w12, put_r13, put_w13, put_r14, put_w14, put_r15, put_w15, put_ra, put_r8, put_r0, put_rt, put_wa, u1, u2, hn8] at w80)
          (try simp (disch := omega) only [put_r6, put_w6, put_r7, put_w7, put_r9, put_w9, put_r10, put_w10, put_r11, put_w11, put_r12, put_w12, put_r13, put_w13, put_r14, put_w14, put_r15, put_w15, put_ra, put_r8, put_r0, put_rt, put_wa, u1, u2, hn8])
          first
           | (exfalso; omega)
           | (skip
              refine e_callS 86 mt_yX12_isSmall ms_yX12_isSmall wd_1401 (by decide) dX12_next_83 rfl rfl (Nat.le_of_ble_eq_true rfl) (jroom (by decide)) rfl (m_isSmall (by (try simp (disch := omega) only [put_r6, put_w6, put_r7, put_w7, put_r9, put_w9, put_r10, put_w10, put_r11, put_w11, put_r12, put_w12, put_r13, put_w13, put_r14, put_w14, put_r15, put_w15, put_ra, put_r8, put_r0, put_rt, put_wa, u1, u2, hn8]); omega) (fun w83 => ?_) (fun w83 => ?_))
              · dsimp only [jpush]
                (try simp (disch := omega) only [put_r6, put_w6, put_r7, put_w7, put_r9, put_w9, put_r10, put_w10, put_r11, put_w11, put_r12, put_w12, put_r13, put_w13, put_r14, put_w14, put_r15, put_w15, put_ra, put_r8, put_r0, put_rt, put_wa, u1, u2, hn8] at w83)
                (try simp (disch := omega) only [put_r6, put_w6, put_r7, put_w7, put_r9, put_w9, put_r10, put_w10, put_r11, put_w11, put_r12, put_w12, put_r13, put_w13, put_r14, put_w14, put_r15, put_w15, put_ra, put_r8, put_r0, put_rt, put_wa, u1, u2, hn8])
                first
                 | (exfalso; omega)
                 | (skip
                    refine e_if_eq 89 127 dX12_next_86 (by decide) (by decide) rfl (fun h => absurd h (by decide)) (fun _ => ?_)
                    have hB : tBe (M 931) n q = tSm (M 931) (n - q).toNat q := by
                      unfold tBe
                      rw [if_neg (by omega), if_pos (by omega)]
                    have hr := tSm_rng (t := M 931) (n - q).toNat q
                    refine ln_s hT (n - q).toNat q (by omega) (by omega) ?_
                    rw [← hB] at hr ⊢
                    refine e_aload_n (i := 0) 117 dX12_next_116 rfl rfl rfl ?_
                    refine e_aload_n (i := 0) 118 dX12_next_117 rfl rfl rfl ?_
                    refine e_callV 121 mt_yX12_keyAt mv_yX12_keyAt wd_1404 (by decide) dX12_next_118 at_928 jc_12 rfl rfl rfl (Nat.le_of_ble_eq_true rfl) (jroom (by decide)) rfl (m_keyAt hT (by (try simp (disch := omega) only [put_r6, put_w6, put_r7, put_w7, put_r9, put_w9, put_r10, put_w10, put_r11, put_w11, put_r12, put_w12, put_r13, put_w13, put_r14, put_w14, put_r15, put_w15, put_ra, put_r8, put_r0, put_rt, put_wa, u1, u2, hn8]); omega) (by (try simp (disch := omega) only [put_r6, put_w6, put_r7, put_w7, put_r9, put_w9, put_r10, put_w10, put_r11, put_w11, put_r12, put_w12, put_r13, put_w13, put_r14, put_w14, put_r15, put_w15, put_ra, put_r8, put_r0, put_rt, put_wa, u1, u2, hn8]); omega) ?_)
                    dsimp only [jpush]
                    (try simp (disch := omega) only [put_r6, put_w6, put_r7, put_w7, put_r9, put_w9, put_r10, put_w10, put_r11, put_w11, put_r12, put_w12, put_r13, put_w13, put_r14, put_w14, put_r15, put_w15, put_ra, put_r8, put_r0, put_rt, put_wa, u1, u2, hn8])
                    have hkx := kx0_ge (t := M 931) (p := q) (b := tBe (M 931) n q)
                    refine e_puti (j := 9) 124 fl_12_107 dX12_next_121 at_928 rfl rfl rfl (by omega) rfl ?_
                    refine e_goto 306 dX12_next_124 (by decide) ?_
                    refine e_vret dX12_next_306 ?_
                    have hK : tKd (M 931) n q = kx0 (M 931) q (tBe (M 931) n q) := by
                      unfold tKd
                      rw [if_neg (by omega), if_pos (by omega)]
                    have hN : tNu (M 931) n q s.2.2.2.1 = s.2.2.2.1 := by
                      unfold tNu
                      rw [if_neg (by omega), if_pos (by omega)]
                    rw [hK, hN] at h
                    simp (disch := omega) only [put_r6, put_w6, put_r7, put_w7, put_r9, put_w9, put_r10, put_w10, put_r11, put_w11, put_r12, put_w12, put_r13, put_w13, put_r14, put_w14, put_r15, put_w15, put_ra, put_r8, put_r0, put_rt, put_wa, u1, u2, hn8]
                    exact h)
              · dsimp only [jpush]
                (try simp (disch := omega) only [put_r6, put_w6, put_r7, put_w7, put_r9, put_w9, put_r10, put_w10, put_r11, put_w11, put_r12, put_w12, put_r13, put_w13, put_r14, put_w14, put_r15, put_w15, put_ra, put_r8, put_r0, put_rt, put_wa, u1, u2, hn8] at w83)
                (try simp (disch := omega) only [put_r6, put_w6, put_r7, put_w7, put_r9, put_w9, put_r10, put_w10, put_r11, put_w11, put_r12, put_w12, put_r13, put_w13, put_r14, put_w14, put_r15, put_w15, put_ra, put_r8, put_r0, put_rt, put_wa, u1, u2, hn8])
                first
                 | (exfalso; omega)
                 | (skip
                    refine e_if_eq 89 127 dX12_next_86 (by decide) (by decide) rfl (fun _ => ?_) (fun h => absurd h (by decide))
                    refine e_aload_n (i := 0) 128 dX12_next_127 rfl rfl rfl ?_
                    refine e_aload_n (i := 0) 129 dX12_next_128 rfl rfl rfl ?_
                    refine e_geti (j := 6) 132 fl_12_97 dX12_next_129 at_928 (by decide) rfl rfl (fun r129 => ?_)
                    simp (disch := omega) only [put_r6, put_w6, put_r7, put_w7, put_r9, put_w9, put_r10, put_w10, put_r11, put_w11, put_r12, put_w12, put_r13, put_w13, put_r14, put_w14, put_r15, put_w15, put_ra, put_r8, put_r0, put_rt, put_wa, u1, u2, hn8] at r129 ⊢
                    refine e_callV 135 mt_yX12_see mv_yX12_see wd_1397 (by decide) dX12_next_132 at_928 jc_12 rfl rfl rfl (Nat.le_of_ble_eq_true rfl) (jroom (by decide)) rfl (m_see hT (by (try simp (disch := omega) only [put_r6, put_w6, put_r7, put_w7, put_r9, put_w9, put_r10, put_w10, put_r11, put_w11, put_r12, put_w12, put_r13, put_w13, put_r14, put_w14, put_r15, put_w15, put_ra, put_r8, put_r0, put_rt, put_wa, u1, u2, hn8]); omega) (fun w132 => ?_) (fun w132 => ?_))
                    · dsimp only [jpush]
                      (try simp (disch := omega) only [put_r6, put_w6, put_r7, put_w7, put_r9, put_w9, put_r10, put_w10, put_r11, put_w11, put_r12, put_w12, put_r13, put_w13, put_r14, put_w14, put_r15, put_w15, put_ra, put_r8, put_r0, put_rt, put_wa, u1, u2, hn8] at w132)
                      (try simp (disch := omega) only [put_r6, put_w6, put_r7, put_w7, put_r9, put_w9, put_r10, put_w10, put_r11, put_w11, put_r12, put_w12, put_r13, put_w13, put_r14, put_w14, put_r15, put_w15, put_ra, put_r8, put_r0, put_rt, put_wa, u1, u2, hn8])
                      first
                       | (exfalso; omega)
                       | (skip
                          refine e_callS 138 mt_yX12_isDigit ms_yX12_isDigit wd_1411 (by decide) dX12_next_135 rfl rfl (Nat.le_of_ble_eq_true rfl) (jroom (by decide)) rfl (m_isDigit (by (try simp (disch := omega) only [put_r6, put_w6, put_r7, put_w7, put_r9, put_w9, put_r10, put_w10, put_r11, put_w11, put_r12, put_w12, put_r13, put_w13, put_r14, put_w14, put_r15, put_w15, put_ra, put_r8, put_r0, put_rt, put_wa, u1, u2, hn8]); omega) (fun w135 => ?_) (fun w135 => ?_))
                          · dsimp only [jpush]
                            (try simp (disch := omega) only [put_r6, put_w6, put_r7, put_w7, put_r9, put_w9, put_r10, put_w10, put_r11, put_w11, put_r12, put_w12, put_r13, put_w13, put_r14, put_w14, put_r15, put_w15, put_ra, put_r8, put_r0, put_rt, put_wa, u1, u2, hn8] at w135)
                            (try simp (disch := omega) only [put_r6, put_w6, put_r7, put_w7, put_r9, put_w9, put_r10, put_w10, put_r11, put_w11, put_r12, put_w12, put_r13, put_w13, put_r14, put_w14, put_r15, put_w15, put_ra, put_r8, put_r0, put_rt, put_wa, u1, u2, hn8])
                            first
                             | (exfalso; omega)
                             | (skip
                                refine e_if_eq 141 236 dX12_next_138 (by decide) (by decide) rfl (fun h => absurd h (by decide)) (fun _ => ?_)
                                refine e_aload_n (i := 0) 142 dX12_next_141 rfl rfl rfl ?_
                                refine e_iconst 143 dX12_next_142 rfl ?_
                                refine e_puti (j := 10) 146 fl_12_120 dX12_next_143 at_928 rfl rfl rfl (by decide) rfl ?_
                                have hB : tBe (M 931) n q = tDg (M 931) (n - q).toNat q := by
                                  unfold tBe
                                  rw [if_neg (by omega), if_neg (by omega), if_pos (by omega)]
                                have hr := tDg_rng (t := M 931) (n - q).toNat q
                                simp (disch := omega) only [put_r6, put_w6, put_r7, put_w7, put_r9, put_w9, put_r10, put_w10, put_r11, put_w11, put_r12, put_w12, put_r13, put_w13, put_r14, put_w14, put_r15, put_w15, put_ra, put_r8, put_r0, put_rt, put_wa, u1, u2, hn8]
                                have h00 : tNum (M 931) q (q - q) = 0 := by
                                  rw [tNum, if_pos (by omega)]
                                rw [← h00]
                                refine ln_d hT (by omega) (n - q).toNat q (by omega) (by omega) ?_
                                rw [← hB] at hr ⊢
                                refine e_aload_n (i := 0) 210 dX12_next_209 rfl rfl rfl ?_
                                refine e_aload_n (i := 0) 211 dX12_next_210 rfl rfl rfl ?_
                                refine e_geti (j := 7) 214 fl_12_100 dX12_next_211 at_928 (by decide) rfl rfl (fun r211 => ?_)
                                simp (disch := omega) only [put_r6, put_w6, put_r7, put_w7, put_r9, put_w9, put_r10, put_w10, put_r11, put_w11, put_r12, put_w12, put_r13, put_w13, put_r14, put_w14, put_r15, put_w15, put_ra, put_r8, put_r0, put_rt, put_wa, u1, u2, hn8] at r211 ⊢
                                refine e_aload_n (i := 0) 215 dX12_next_214 rfl rfl rfl ?_
                                refine e_geti (j := 6) 218 fl_12_97 dX12_next_215 at_928 (by decide) rfl rfl (fun r215 => ?_)
                                simp (disch := omega) only [put_r6, put_w6, put_r7, put_w7, put_r9, put_w9, put_r10, put_w10, put_r11, put_w11, put_r12, put_w12, put_r13, put_w13, put_r14, put_w14, put_r15, put_w15, put_ra, put_r8, put_r0, put_rt, put_wa, u1, u2, hn8] at r215 ⊢
                                refine e_isub 219 dX12_next_218 rfl ?_
                                refine e_iconst 220 dX12_next_219 rfl ?_
                                refine e_icmp_le 223 228 dX12_next_220 (by omega) (by decide) (by decide) rfl (fun b220 => ?_) (fun b220 => ?_)
                                · skip
                                  refine e_bipush 230 dX12_next_228 (by decide) rfl ?_
                                  refine e_puti (j := 9) 233 fl_12_107 dX12_next_230 at_928 rfl rfl rfl (by decide) rfl ?_
                                  refine e_goto 306 dX12_next_233 (by decide) ?_
                                  refine e_vret dX12_next_306 ?_
                                  first
                                    | (exfalso; omega)
                                    | (have hK : tKd (M 931) n q = 21 := by
                                         unfold tKd
                                         rw [if_neg (by omega), if_neg (by omega), if_pos (by omega), if_neg (by omega)]
                                       have hN : tNu (M 931) n q s.2.2.2.1 = tNum (M 931) q (tBe (M 931) n q - q) := by
                                         unfold tNu
                                         rw [if_neg (by omega), if_neg (by omega), if_pos (by omega)]
                                       rw [hK, hN] at h
                                       simp (disch := omega) only [put_r6, put_w6, put_r7, put_w7, put_r9, put_w9, put_r10, put_w10, put_r11, put_w11, put_r12, put_w12, put_r13, put_w13, put_r14, put_w14, put_r15, put_w15, put_ra, put_r8, put_r0, put_rt, put_wa, u1, u2, hn8]
                                       exact h)
                                · skip
                                  refine e_bipush 225 dX12_next_223 (by decide) rfl ?_
                                  refine e_goto 230 dX12_next_225 (by decide) ?_
                                  refine e_puti (j := 9) 233 fl_12_107 dX12_next_230 at_928 rfl rfl rfl (by decide) rfl ?_
                                  refine e_goto 306 dX12_next_233 (by decide) ?_
                                  refine e_vret dX12_next_306 ?_
                                  first
                                    | (exfalso; omega)
                                    | (have hK : tKd (M 931) n q = 26 := by
                                         unfold tKd
                                         rw [if_neg (by omega), if_neg (by omega), if_pos (by omega), if_pos (by omega)]
                                       have hN : tNu (M 931) n q s.2.2.2.1 = tNum (M 931) q (tBe (M 931) n q - q) := by
                                         unfold tNu
                                         rw [if_neg (by omega), if_neg (by omega), if_pos (by omega)]
                                       rw [hK, hN] at h
                                       simp (disch := omega) only [put_r6, put_w6, put_r7, put_w7, put_r9, put_w9, put_r10, put_w10, put_r11, put_w11, put_r12, put_w12, put_r13, put_w13, put_r14, put_w14, put_r15, put_w15, put_ra, put_r8, put_r0, put_rt, put_wa, u1, u2, hn8]
                                       exact h))
                          · dsimp only [jpush]
                            (try simp (disch := omega) only [put_r6, put_w6, put_r7, put_w7, put_r9, put_w9, put_r10, put_w10, put_r11, put_w11, put_r12, put_w12, put_r13, put_w13, put_r14, put_w14, put_r15, put_w15, put_ra, put_r8, put_r0, put_rt, put_wa, u1, u2, hn8] at w135)
                            (try simp (disch := omega) only [put_r6, put_w6, put_r7, put_w7, put_r9, put_w9, put_r10, put_w10, put_r11, put_w11, put_r12, put_w12, put_r13, put_w13, put_r14, put_w14, put_r15, put_w15, put_ra, put_r8, put_r0, put_rt, put_wa, u1, u2, hn8])
                            first
                             | (exfalso; omega)
                             | (skip
                                refine e_if_eq 141 236 dX12_next_138 (by decide) (by decide) rfl (fun _ => ?_) (fun h => absurd h (by decide))
                                refine e_aload_n (i := 0) 237 dX12_next_236 rfl rfl rfl ?_
                                refine e_dup 238 dX12_next_237 rfl rfl ?_
                                refine e_geti (j := 7) 241 fl_12_100 dX12_next_238 at_928 (by decide) rfl rfl (fun r238 => ?_)
                                simp (disch := omega) only [put_r6, put_w6, put_r7, put_w7, put_r9, put_w9, put_r10, put_w10, put_r11, put_w11, put_r12, put_w12, put_r13, put_w13, put_r14, put_w14, put_r15, put_w15, put_ra, put_r8, put_r0, put_rt, put_wa, u1, u2, hn8] at r238 ⊢
                                refine e_iconst 242 dX12_next_241 rfl ?_
                                refine e_iadd 243 dX12_next_242 rfl ?_
                                refine e_puti (j := 7) 246 fl_12_100 dX12_next_243 at_928 rfl rfl rfl (by omega) rfl ?_
                                refine e_aload_n (i := 0) 247 dX12_next_246 rfl rfl rfl ?_
                                refine e_aload_n (i := 0) 248 dX12_next_247 rfl rfl rfl ?_
                                refine e_aload_n (i := 0) 249 dX12_next_248 rfl rfl rfl ?_
                                refine e_geti (j := 6) 252 fl_12_97 dX12_next_249 at_928 (by decide) rfl rfl (fun r249 => ?_)
                                simp (disch := omega) only [put_r6, put_w6, put_r7, put_w7, put_r9, put_w9, put_r10, put_w10, put_r11, put_w11, put_r12, put_w12, put_r13, put_w13, put_r14, put_w14, put_r15, put_w15, put_ra, put_r8, put_r0, put_rt, put_wa, u1, u2, hn8] at r249 ⊢
                                refine e_callV 255 mt_yX12_see mv_yX12_see wd_1397 (by decide) dX12_next_252 at_928 jc_12 rfl rfl rfl (Nat.le_of_ble_eq_true rfl) (jroom (by decide)) rfl (m_see hT (by (try simp (disch := omega) only [put_r6, put_w6, put_r7, put_w7, put_r9, put_w9, put_r10, put_w10, put_r11, put_w11, put_r12, put_w12, put_r13, put_w13, put_r14, put_w14, put_r15, put_w15, put_ra, put_r8, put_r0, put_rt, put_wa, u1, u2, hn8]); omega) (fun w252 => ?_) (fun w252 => ?_))
                                · dsimp only [jpush]
                                  (try simp (disch := omega) only [put_r6, put_w6, put_r7, put_w7, put_r9, put_w9, put_r10, put_w10, put_r11, put_w11, put_r12, put_w12, put_r13, put_w13, put_r14, put_w14, put_r15, put_w15, put_ra, put_r8, put_r0, put_rt, put_wa, u1, u2, hn8] at w252)
                                  (try simp (disch := omega) only [put_r6, put_w6, put_r7, put_w7, put_r9, put_w9, put_r10, put_w10, put_r11, put_w11, put_r12, put_w12, put_r13, put_w13, put_r14, put_w14, put_r15, put_w15, put_ra, put_r8, put_r0, put_rt, put_wa, u1, u2, hn8])
                                  first
                                   | (exfalso; omega)
                                   | (skip
                                      refine e_bipush 257 dX12_next_255 (by decide) rfl ?_
                                      refine e_icmp_ne 260 265 dX12_next_257 (by omega) (by decide) (by decide) rfl (fun b257 => ?_) (fun b257 => ?_)
                                      · first
                                         | (exfalso; omega)
                                         | (skip
                                            refine e_aload_n (i := 0) 266 dX12_next_265 rfl rfl rfl ?_
                                            refine e_aload_n (i := 0) 267 dX12_next_266 rfl rfl rfl ?_
                                            refine e_geti (j := 6) 270 fl_12_97 dX12_next_267 at_928 (by decide) rfl rfl (fun r267 => ?_)
                                            simp (disch := omega) only [put_r6, put_w6, put_r7, put_w7, put_r9, put_w9, put_r10, put_w10, put_r11, put_w11, put_r12, put_w12, put_r13, put_w13, put_r14, put_w14, put_r15, put_w15, put_ra, put_r8, put_r0, put_rt, put_wa, u1, u2, hn8] at r267 ⊢
                                            refine e_callV 273 mt_yX12_see mv_yX12_see wd_1397 (by decide) dX12_next_270 at_928 jc_12 rfl rfl rfl (Nat.le_of_ble_eq_true rfl) (jroom (by decide)) rfl (m_see hT (by (try simp (disch := omega) only [put_r6, put_w6, put_r7, put_w7, put_r9, put_w9, put_r10, put_w10, put_r11, put_w11, put_r12, put_w12, put_r13, put_w13, put_r14, put_w14, put_r15, put_w15, put_ra, put_r8, put_r0, put_rt, put_wa, u1, u2, hn8]); omega) (fun w270 => ?_) (fun w270 => ?_))
                                            · dsimp only [jpush]
                                              (try simp (disch := omega) only [put_r6, put_w6, put_r7, put_w7, put_r9, put_w9, put_r10, put_w10, put_r11, put_w11, put_r12, put_w12, put_r13, put_w13, put_r14, put_w14, put_r15, put_w15, put_ra, put_r8, put_r0, put_rt, put_wa, u1, u2, hn8] at w270)
                                              (try simp (disch := omega) only [put_r6, put_w6, put_r7, put_w7, put_r9, put_w9, put_r10, put_w10, put_r11, put_w11, put_r12, put_w12, put_r13, put_w13, put_r14, put_w14, put_r15, put_w15, put_ra, put_r8, put_r0, put_rt, put_wa, u1, u2, hn8])
                                              first
                                               | (exfalso; omega)
                                               | (skip
                                                  refine e_bipush 275 dX12_next_273 (by decide) rfl ?_
                                                  refine e_icmp_ne 278 283 dX12_next_275 (by omega) (by decide) (by decide) rfl (fun b275 => ?_) (fun b275 => ?_)
                                                  · first
                                                     | (exfalso; omega)
                                                     | (skip
                                                        refine e_aload_n (i := 0) 284 dX12_next_283 rfl rfl rfl ?_
                                                        refine e_aload_n (i := 0) 285 dX12_next_284 rfl rfl rfl ?_
                                                        refine e_geti (j := 6) 288 fl_12_97 dX12_next_285 at_928 (by decide) rfl rfl (fun r285 => ?_)
                                                        simp (disch := omega) only [put_r6, put_w6, put_r7, put_w7, put_r9, put_w9, put_r10, put_w10, put_r11, put_w11, put_r12, put_w12, put_r13, put_w13, put_r14, put_w14, put_r15, put_w15, put_ra, put_r8, put_r0, put_rt, put_wa, u1, u2, hn8] at r285 ⊢
                                                        refine e_callV 291 mt_yX12_see mv_yX12_see wd_1397 (by decide) dX12_next_288 at_928 jc_12 rfl rfl rfl (Nat.le_of_ble_eq_true rfl) (jroom (by decide)) rfl (m_see hT (by (try simp (disch := omega) only [put_r6, put_w6, put_r7, put_w7, put_r9, put_w9, put_r10, put_w10, put_r11, put_w11, put_r12, put_w12, put_r13, put_w13, put_r14, put_w14, put_r15, put_w15, put_ra, put_r8, put_r0, put_rt, put_wa, u1, u2, hn8]); omega) (fun w288 => ?_) (fun w288 => ?_))
                                                        · dsimp only [jpush]
                                                          (try simp (disch := omega) only [put_r6, put_w6, put_r7, put_w7, put_r9, put_w9, put_r10, put_w10, put_r11, put_w11, put_r12, put_w12, put_r13, put_w13, put_r14, put_w14, put_r15, put_w15, put_ra, put_r8, put_r0, put_rt, put_wa, u1, u2, hn8] at w288)
                                                          (try simp (disch := omega) only [put_r6, put_w6, put_r7, put_w7, put_r9, put_w9, put_r10, put_w10, put_r11, put_w11, put_r12, put_w12, put_r13, put_w13, put_r14, put_w14, put_r15, put_w15, put_ra, put_r8, put_r0, put_rt, put_wa, u1, u2, hn8])
                                                          first
                                                           | (exfalso; omega)
                                                           | (skip
                                                              refine e_bipush 293 dX12_next_291 (by decide) rfl ?_
                                                              refine e_icmp_ne 296 301 dX12_next_293 (by omega) (by decide) (by decide) rfl (fun b293 => ?_) (fun b293 => ?_)
                                                              · first
                                                                 | (exfalso; omega)
                                                                 | (skip
                                                                    refine e_bipush 303 dX12_next_301 (by decide) rfl ?_
                                                                    refine e_puti (j := 9) 306 fl_12_107 dX12_next_303 at_928 rfl rfl rfl (by decide) rfl ?_
                                                                    refine e_vret dX12_next_306 ?_
                                                                    first
                                                                      | (exfalso; omega)
                                                                      | (have hB : tBe (M 931) n q = q + 1 := by
                                                                           unfold tBe
                                                                           rw [if_neg (by omega), if_neg (by omega), if_neg (by omega)]
                                                                         have hK : tKd (M 931) n q = 26 := by
                                                                           unfold tKd
                                                                           rw [if_neg (by omega), if_neg (by omega), if_neg (by omega), if_neg (by omega), if_neg (by omega), if_neg (by omega)]
                                                                         have hN : tNu (M 931) n q s.2.2.2.1 = s.2.2.2.1 := by
                                                                           unfold tNu
                                                                           rw [if_neg (by omega), if_neg (by omega), if_neg (by omega)]
                                                                         rw [hK, hN, hB] at h
                                                                         simp (disch := omega) only [put_r6, put_w6, put_r7, put_w7, put_r9, put_w9, put_r10, put_w10, put_r11, put_w11, put_r12, put_w12, put_r13, put_w13, put_r14, put_w14, put_r15, put_w15, put_ra, put_r8, put_r0, put_rt, put_wa, u1, u2, hn8]
                                                                         exact h))
                                                              · first
                                                                 | (exfalso; omega)
                                                                 | (skip
                                                                    refine e_bipush 298 dX12_next_296 (by decide) rfl ?_
                                                                    refine e_goto 303 dX12_next_298 (by decide) ?_
                                                                    refine e_puti (j := 9) 306 fl_12_107 dX12_next_303 at_928 rfl rfl rfl (by decide) rfl ?_
                                                                    refine e_vret dX12_next_306 ?_
                                                                    first
                                                                      | (exfalso; omega)
                                                                      | (have hB : tBe (M 931) n q = q + 1 := by
                                                                           unfold tBe
                                                                           rw [if_neg (by omega), if_neg (by omega), if_neg (by omega)]
                                                                         have hK : tKd (M 931) n q = 24 := by
                                                                           unfold tKd
                                                                           rw [if_neg (by omega), if_neg (by omega), if_neg (by omega), if_neg (by omega), if_neg (by omega), if_pos (by omega)]
                                                                         have hN : tNu (M 931) n q s.2.2.2.1 = s.2.2.2.1 := by
                                                                           unfold tNu
                                                                           rw [if_neg (by omega), if_neg (by omega), if_neg (by omega)]
                                                                         rw [hK, hN, hB] at h
                                                                         simp (disch := omega) only [put_r6, put_w6, put_r7, put_w7, put_r9, put_w9, put_r10, put_w10, put_r11, put_w11, put_r12, put_w12, put_r13, put_w13, put_r14, put_w14, put_r15, put_w15, put_ra, put_r8, put_r0, put_rt, put_wa, u1, u2, hn8]
                                                                         exact h)))
                                                        · dsimp only [jpush]
                                                          (try simp (disch := omega) only [put_r6, put_w6, put_r7, put_w7, put_r9, put_w9, put_r10, put_w10, put_r11, put_w11, put_r12, put_w12, put_r13, put_w13, put_r14, put_w14, put_r15, put_w15, put_ra, put_r8, put_r0, put_rt, put_wa, u1, u2, hn8] at w288)
                                                          (try simp (disch := omega) only [put_r6, put_w6, put_r7, put_w7, put_r9, put_w9, put_r10, put_w10, put_r11, put_w11, put_r12, put_w12, put_r13, put_w13, put_r14, put_w14, put_r15, put_w15, put_ra, put_r8, put_r0, put_rt, put_wa, u1, u2, hn8])
                                                          first
                                                           | (exfalso; omega)
                                                           | (skip
                                                              refine e_bipush 293 dX12_next_291 (by decide) rfl ?_
                                                              refine e_icmp_ne 296 301 dX12_next_293 (by decide) (by decide) (by decide) rfl (fun _ => ?_) (fun h => absurd h (by decide))
                                                              refine e_bipush 303 dX12_next_301 (by decide) rfl ?_
                                                              refine e_puti (j := 9) 306 fl_12_107 dX12_next_303 at_928 rfl rfl rfl (by decide) rfl ?_
                                                              refine e_vret dX12_next_306 ?_
                                                              omega))
                                                  · first
                                                     | (exfalso; omega)
                                                     | (skip
                                                        refine e_bipush 280 dX12_next_278 (by decide) rfl ?_
                                                        refine e_goto 303 dX12_next_280 (by decide) ?_
                                                        refine e_puti (j := 9) 306 fl_12_107 dX12_next_303 at_928 rfl rfl rfl (by decide) rfl ?_
                                                        refine e_vret dX12_next_306 ?_
                                                        first
                                                          | (exfalso; omega)
                                                          | (have hB : tBe (M 931) n q = q + 1 := by
                                                               unfold tBe
                                                               rw [if_neg (by omega), if_neg (by omega), if_neg (by omega)]
                                                             have hK : tKd (M 931) n q = 23 := by
                                                               unfold tKd
                                                               rw [if_neg (by omega), if_neg (by omega), if_neg (by omega), if_neg (by omega), if_pos (by omega)]
                                                             have hN : tNu (M 931) n q s.2.2.2.1 = s.2.2.2.1 := by
                                                               unfold tNu
                                                               rw [if_neg (by omega), if_neg (by omega), if_neg (by omega)]
                                                             rw [hK, hN, hB] at h
                                                             simp (disch := omega) only [put_r6, put_w6, put_r7, put_w7, put_r9, put_w9, put_r10, put_w10, put_r11, put_w11, put_r12, put_w12, put_r13, put_w13, put_r14, put_w14, put_r15, put_w15, put_ra, put_r8, put_r0, put_rt, put_wa, u1, u2, hn8]
                                                             exact h)))
                                            · dsimp only [jpush]
                                              (try simp (disch := omega) only [put_r6, put_w6, put_r7, put_w7, put_r9, put_w9, put_r10, put_w10, put_r11, put_w11, put_r12, put_w12, put_r13, put_w13, put_r14, put_w14, put_r15, put_w15, put_ra, put_r8, put_r0, put_rt, put_wa, u1, u2, hn8] at w270)
                                              (try simp (disch := omega) only [put_r6, put_w6, put_r7, put_w7, put_r9, put_w9, put_r10, put_w10, put_r11, put_w11, put_r12, put_w12, put_r13, put_w13, put_r14, put_w14, put_r15, put_w15, put_ra, put_r8, put_r0, put_rt, put_wa, u1, u2, hn8])
                                              first
                                               | (exfalso; omega)
                                               | (skip
                                                  refine e_bipush 275 dX12_next_273 (by decide) rfl ?_
                                                  refine e_icmp_ne 278 283 dX12_next_275 (by decide) (by decide) (by decide) rfl (fun _ => ?_) (fun h => absurd h (by decide))
                                                  refine e_aload_n (i := 0) 284 dX12_next_283 rfl rfl rfl ?_
                                                  refine e_aload_n (i := 0) 285 dX12_next_284 rfl rfl rfl ?_
                                                  refine e_geti (j := 6) 288 fl_12_97 dX12_next_285 at_928 (by decide) rfl rfl (fun r285 => ?_)
                                                  simp (disch := omega) only [put_r6, put_w6, put_r7, put_w7, put_r9, put_w9, put_r10, put_w10, put_r11, put_w11, put_r12, put_w12, put_r13, put_w13, put_r14, put_w14, put_r15, put_w15, put_ra, put_r8, put_r0, put_rt, put_wa, u1, u2, hn8] at r285 ⊢
                                                  refine e_callV 291 mt_yX12_see mv_yX12_see wd_1397 (by decide) dX12_next_288 at_928 jc_12 rfl rfl rfl (Nat.le_of_ble_eq_true rfl) (jroom (by decide)) rfl (m_see hT (by (try simp (disch := omega) only [put_r6, put_w6, put_r7, put_w7, put_r9, put_w9, put_r10, put_w10, put_r11, put_w11, put_r12, put_w12, put_r13, put_w13, put_r14, put_w14, put_r15, put_w15, put_ra, put_r8, put_r0, put_rt, put_wa, u1, u2, hn8]); omega) (fun w288 => ?_) (fun w288 => ?_))
                                                  · dsimp only [jpush]
                                                    (try simp (disch := omega) only [put_r6, put_w6, put_r7, put_w7, put_r9, put_w9, put_r10, put_w10, put_r11, put_w11, put_r12, put_w12, put_r13, put_w13, put_r14, put_w14, put_r15, put_w15, put_ra, put_r8, put_r0, put_rt, put_wa, u1, u2, hn8] at w288)
                                                    (try simp (disch := omega) only [put_r6, put_w6, put_r7, put_w7, put_r9, put_w9, put_r10, put_w10, put_r11, put_w11, put_r12, put_w12, put_r13, put_w13, put_r14, put_w14, put_r15, put_w15, put_ra, put_r8, put_r0, put_rt, put_wa, u1, u2, hn8])
                                                    first
                                                     | (exfalso; omega)
                                                     | (skip
                                                        refine e_bipush 293 dX12_next_291 (by decide) rfl ?_
                                                        refine e_icmp_ne 296 301 dX12_next_293 (by omega) (by decide) (by decide) rfl (fun b293 => ?_) (fun b293 => ?_)
                                                        · first
                                                           | (exfalso; omega)
                                                           | (skip
                                                              refine e_bipush 303 dX12_next_301 (by decide) rfl ?_
                                                              refine e_puti (j := 9) 306 fl_12_107 dX12_next_303 at_928 rfl rfl rfl (by decide) rfl ?_
                                                              refine e_vret dX12_next_306 ?_
                                                              first
                                                                | (exfalso; omega)
                                                                | (have hB : tBe (M 931) n q = q + 1 := by
                                                                     unfold tBe
                                                                     rw [if_neg (by omega), if_neg (by omega), if_neg (by omega)]
                                                                   have hK : tKd (M 931) n q = 26 := by
                                                                     unfold tKd
                                                                     rw [if_neg (by omega), if_neg (by omega), if_neg (by omega), if_neg (by omega), if_neg (by omega), if_neg (by omega)]
                                                                   have hN : tNu (M 931) n q s.2.2.2.1 = s.2.2.2.1 := by
                                                                     unfold tNu
                                                                     rw [if_neg (by omega), if_neg (by omega), if_neg (by omega)]
                                                                   rw [hK, hN, hB] at h
                                                                   simp (disch := omega) only [put_r6, put_w6, put_r7, put_w7, put_r9, put_w9, put_r10, put_w10, put_r11, put_w11, put_r12, put_w12, put_r13, put_w13, put_r14, put_w14, put_r15, put_w15, put_ra, put_r8, put_r0, put_rt, put_wa, u1, u2, hn8]
                                                                   exact h))
                                                        · first
                                                           | (exfalso; omega)
                                                           | (skip
                                                              refine e_bipush 298 dX12_next_296 (by decide) rfl ?_
                                                              refine e_goto 303 dX12_next_298 (by decide) ?_
                                                              refine e_puti (j := 9) 306 fl_12_107 dX12_next_303 at_928 rfl rfl rfl (by decide) rfl ?_
                                                              refine e_vret dX12_next_306 ?_
                                                              first
                                                                | (exfalso; omega)
                                                                | (have hB : tBe (M 931) n q = q + 1 := by
                                                                     unfold tBe
                                                                     rw [if_neg (by omega), if_neg (by omega), if_neg (by omega)]
                                                                   have hK : tKd (M 931) n q = 24 := by
                                                                     unfold tKd
                                                                     rw [if_neg (by omega), if_neg (by omega), if_neg (by omega), if_neg (by omega), if_neg (by omega), if_pos (by omega)]
                                                                   have hN : tNu (M 931) n q s.2.2.2.1 = s.2.2.2.1 := by
                                                                     unfold tNu
                                                                     rw [if_neg (by omega), if_neg (by omega), if_neg (by omega)]
                                                                   rw [hK, hN, hB] at h
                                                                   simp (disch := omega) only [put_r6, put_w6, put_r7, put_w7, put_r9, put_w9, put_r10, put_w10, put_r11, put_w11, put_r12, put_w12, put_r13, put_w13, put_r14, put_w14, put_r15, put_w15, put_ra, put_r8, put_r0, put_rt, put_wa, u1, u2, hn8]
                                                                   exact h)))
                                                  · dsimp only [jpush]
                                                    (try simp (disch := omega) only [put_r6, put_w6, put_r7, put_w7, put_r9, put_w9, put_r10, put_w10, put_r11, put_w11, put_r12, put_w12, put_r13, put_w13, put_r14, put_w14, put_r15, put_w15, put_ra, put_r8, put_r0, put_rt, put_wa, u1, u2, hn8] at w288)
                                                    (try simp (disch := omega) only [put_r6, put_w6, put_r7, put_w7, put_r9, put_w9, put_r10, put_w10, put_r11, put_w11, put_r12, put_w12, put_r13, put_w13, put_r14, put_w14, put_r15, put_w15, put_ra, put_r8, put_r0, put_rt, put_wa, u1, u2, hn8])
                                                    first
                                                     | (exfalso; omega)
                                                     | (skip
                                                        refine e_bipush 293 dX12_next_291 (by decide) rfl ?_
                                                        refine e_icmp_ne 296 301 dX12_next_293 (by decide) (by decide) (by decide) rfl (fun _ => ?_) (fun h => absurd h (by decide))
                                                        refine e_bipush 303 dX12_next_301 (by decide) rfl ?_
                                                        refine e_puti (j := 9) 306 fl_12_107 dX12_next_303 at_928 rfl rfl rfl (by decide) rfl ?_
                                                        refine e_vret dX12_next_306 ?_
                                                        omega)))
                                      · first
                                         | (exfalso; omega)
                                         | (skip
                                            refine e_bipush 262 dX12_next_260 (by decide) rfl ?_
                                            refine e_goto 303 dX12_next_262 (by decide) ?_
                                            refine e_puti (j := 9) 306 fl_12_107 dX12_next_303 at_928 rfl rfl rfl (by decide) rfl ?_
                                            refine e_vret dX12_next_306 ?_
                                            first
                                              | (exfalso; omega)
                                              | (have hB : tBe (M 931) n q = q + 1 := by
                                                   unfold tBe
                                                   rw [if_neg (by omega), if_neg (by omega), if_neg (by omega)]
                                                 have hK : tKd (M 931) n q = 22 := by
                                                   unfold tKd
                                                   rw [if_neg (by omega), if_neg (by omega), if_neg (by omega), if_pos (by omega)]
                                                 have hN : tNu (M 931) n q s.2.2.2.1 = s.2.2.2.1 := by
                                                   unfold tNu
                                                   rw [if_neg (by omega), if_neg (by omega), if_neg (by omega)]
                                                 rw [hK, hN, hB] at h
                                                 simp (disch := omega) only [put_r6, put_w6, put_r7, put_w7, put_r9, put_w9, put_r10, put_w10, put_r11, put_w11, put_r12, put_w12, put_r13, put_w13, put_r14, put_w14, put_r15, put_w15, put_ra, put_r8, put_r0, put_rt, put_wa, u1, u2, hn8]
                                                 exact h)))
                                · dsimp only [jpush]
                                  (try simp (disch := omega) only [put_r6, put_w6, put_r7, put_w7, put_r9, put_w9, put_r10, put_w10, put_r11, put_w11, put_r12, put_w12, put_r13, put_w13, put_r14, put_w14, put_r15, put_w15, put_ra, put_r8, put_r0, put_rt, put_wa, u1, u2, hn8] at w252)
                                  (try simp (disch := omega) only [put_r6, put_w6, put_r7, put_w7, put_r9, put_w9, put_r10, put_w10, put_r11, put_w11, put_r12, put_w12, put_r13, put_w13, put_r14, put_w14, put_r15, put_w15, put_ra, put_r8, put_r0, put_rt, put_wa, u1, u2, hn8])
                                  first
                                   | (exfalso; omega)
                                   | (skip
                                      refine e_bipush 257 dX12_next_255 (by decide) rfl ?_
                                      refine e_icmp_ne 260 265 dX12_next_257 (by decide) (by decide) (by decide) rfl (fun _ => ?_) (fun h => absurd h (by decide))
                                      refine e_aload_n (i := 0) 266 dX12_next_265 rfl rfl rfl ?_
                                      refine e_aload_n (i := 0) 267 dX12_next_266 rfl rfl rfl ?_
                                      refine e_geti (j := 6) 270 fl_12_97 dX12_next_267 at_928 (by decide) rfl rfl (fun r267 => ?_)
                                      simp (disch := omega) only [put_r6, put_w6, put_r7, put_w7, put_r9, put_w9, put_r10, put_w10, put_r11, put_w11, put_r12, put_w12, put_r13, put_w13, put_r14, put_w14, put_r15, put_w15, put_ra, put_r8, put_r0, put_rt, put_wa, u1, u2, hn8] at r267 ⊢
                                      refine e_callV 273 mt_yX12_see mv_yX12_see wd_1397 (by decide) dX12_next_270 at_928 jc_12 rfl rfl rfl (Nat.le_of_ble_eq_true rfl) (jroom (by decide)) rfl (m_see hT (by (try simp (disch := omega) only [put_r6, put_w6, put_r7, put_w7, put_r9, put_w9, put_r10, put_w10, put_r11, put_w11, put_r12, put_w12, put_r13, put_w13, put_r14, put_w14, put_r15, put_w15, put_ra, put_r8, put_r0, put_rt, put_wa, u1, u2, hn8]); omega) (fun w270 => ?_) (fun w270 => ?_))
                                      · dsimp only [jpush]
                                        (try simp (disch := omega) only [put_r6, put_w6, put_r7, put_w7, put_r9, put_w9, put_r10, put_w10, put_r11, put_w11, put_r12, put_w12, put_r13, put_w13, put_r14, put_w14, put_r15, put_w15, put_ra, put_r8, put_r0, put_rt, put_wa, u1, u2, hn8] at w270)
                                        (try simp (disch := omega) only [put_r6, put_w6, put_r7, put_w7, put_r9, put_w9, put_r10, put_w10, put_r11, put_w11, put_r12, put_w12, put_r13, put_w13, put_r14, put_w14, put_r15, put_w15, put_ra, put_r8, put_r0, put_rt, put_wa, u1, u2, hn8])
                                        first
                                         | (exfalso; omega)
                                         | (skip
                                            refine e_bipush 275 dX12_next_273 (by decide) rfl ?_
                                            refine e_icmp_ne 278 283 dX12_next_275 (by omega) (by decide) (by decide) rfl (fun b275 => ?_) (fun b275 => ?_)
                                            · first
                                               | (exfalso; omega)
                                               | (skip
                                                  refine e_aload_n (i := 0) 284 dX12_next_283 rfl rfl rfl ?_
                                                  refine e_aload_n (i := 0) 285 dX12_next_284 rfl rfl rfl ?_
                                                  refine e_geti (j := 6) 288 fl_12_97 dX12_next_285 at_928 (by decide) rfl rfl (fun r285 => ?_)
                                                  simp (disch := omega) only [put_r6, put_w6, put_r7, put_w7, put_r9, put_w9, put_r10, put_w10, put_r11, put_w11, put_r12, put_w12, put_r13, put_w13, put_r14, put_w14, put_r15, put_w15, put_ra, put_r8, put_r0, put_rt, put_wa, u1, u2, hn8] at r285 ⊢
                                                  refine e_callV 291 mt_yX12_see mv_yX12_see wd_1397 (by decide) dX12_next_288 at_928 jc_12 rfl rfl rfl (Nat.le_of_ble_eq_true rfl) (jroom (by decide)) rfl (m_see hT (by (try simp (disch := omega) only [put_r6, put_w6, put_r7, put_w7, put_r9, put_w9, put_r10, put_w10, put_r11, put_w11, put_r12, put_w12, put_r13, put_w13, put_r14, put_w14, put_r15, put_w15, put_ra, put_r8, put_r0, put_rt, put_wa, u1, u2, hn8]); omega) (fun w288 => ?_) (fun w288 => ?_))
                                                  · dsimp only [jpush]
                                                    (try simp (disch := omega) only [put_r6, put_w6, put_r7, put_w7, put_r9, put_w9, put_r10, put_w10, put_r11, put_w11, put_r12, put_w12, put_r13, put_w13, put_r14, put_w14, put_r15, put_w15, put_ra, put_r8, put_r0, put_rt, put_wa, u1, u2, hn8] at w288)
                                                    (try simp (disch := omega) only [put_r6, put_w6, put_r7, put_w7, put_r9, put_w9, put_r10, put_w10, put_r11, put_w11, put_r12, put_w12, put_r13, put_w13, put_r14, put_w14, put_r15, put_w15, put_ra, put_r8, put_r0, put_rt, put_wa, u1, u2, hn8])
                                                    first
                                                     | (exfalso; omega)
                                                     | (skip
                                                        refine e_bipush 293 dX12_next_291 (by decide) rfl ?_
                                                        refine e_icmp_ne 296 301 dX12_next_293 (by omega) (by decide) (by decide) rfl (fun b293 => ?_) (fun b293 => ?_)
                                                        · first
                                                           | (exfalso; omega)
                                                           | (skip
                                                              refine e_bipush 303 dX12_next_301 (by decide) rfl ?_
                                                              refine e_puti (j := 9) 306 fl_12_107 dX12_next_303 at_928 rfl rfl rfl (by decide) rfl ?_
                                                              refine e_vret dX12_next_306 ?_
                                                              first
                                                                | (exfalso; omega)
                                                                | (have hB : tBe (M 931) n q = q + 1 := by
                                                                     unfold tBe
                                                                     rw [if_neg (by omega), if_neg (by omega), if_neg (by omega)]
                                                                   have hK : tKd (M 931) n q = 26 := by
                                                                     unfold tKd
                                                                     rw [if_neg (by omega), if_neg (by omega), if_neg (by omega), if_neg (by omega), if_neg (by omega), if_neg (by omega)]
                                                                   have hN : tNu (M 931) n q s.2.2.2.1 = s.2.2.2.1 := by
                                                                     unfold tNu
                                                                     rw [if_neg (by omega), if_neg (by omega), if_neg (by omega)]
                                                                   rw [hK, hN, hB] at h
                                                                   simp (disch := omega) only [put_r6, put_w6, put_r7, put_w7, put_r9, put_w9, put_r10, put_w10, put_r11, put_w11, put_r12, put_w12, put_r13, put_w13, put_r14, put_w14, put_r15, put_w15, put_ra, put_r8, put_r0, put_rt, put_wa, u1, u2, hn8]
                                                                   exact h))
                                                        · first
                                                           | (exfalso; omega)
                                                           | (skip
                                                              refine e_bipush 298 dX12_next_296 (by decide) rfl ?_
                                                              refine e_goto 303 dX12_next_298 (by decide) ?_
                                                              refine e_puti (j := 9) 306 fl_12_107 dX12_next_303 at_928 rfl rfl rfl (by decide) rfl ?_
                                                              refine e_vret dX12_next_306 ?_
                                                              first
                                                                | (exfalso; omega)
                                                                | (have hB : tBe (M 931) n q = q + 1 := by
                                                                     unfold tBe
                                                                     rw [if_neg (by omega), if_neg (by omega), if_neg (by omega)]
                                                                   have hK : tKd (M 931) n q = 24 := by
                                                                     unfold tKd
                                                                     rw [if_neg (by omega), if_neg (by omega), if_neg (by omega), if_neg (by omega), if_neg (by omega), if_pos (by omega)]
                                                                   have hN : tNu (M 931) n q s.2.2.2.1 = s.2.2.2.1 := by
                                                                     unfold tNu
                                                                     rw [if_neg (by omega), if_neg (by omega), if_neg (by omega)]
                                                                   rw [hK, hN, hB] at h
                                                                   simp (disch := omega) only [put_r6, put_w6, put_r7, put_w7, put_r9, put_w9, put_r10, put_w10, put_r11, put_w11, put_r12, put_w12, put_r13, put_w13, put_r14, put_w14, put_r15, put_w15, put_ra, put_r8, put_r0, put_rt, put_wa, u1, u2, hn8]
                                                                   exact h)))
                                                  · dsimp only [jpush]
                                                    (try simp (disch := omega) only [put_r6, put_w6, put_r7, put_w7, put_r9, put_w9, put_r10, put_w10, put_r11, put_w11, put_r12, put_w12, put_r13, put_w13, put_r14, put_w14, put_r15, put_w15, put_ra, put_r8, put_r0, put_rt, put_wa, u1, u2, hn8] at w288)
                                                    (try simp (disch := omega) only [put_r6, put_w6, put_r7, put_w7, put_r9, put_w9, put_r10, put_w10, put_r11, put_w11, put_r12, put_w12, put_r13, put_w13, put_r14, put_w14, put_r15, put_w15, put_ra, put_r8, put_r0, put_rt, put_wa, u1, u2, hn8])
                                                    first
                                                     | (exfalso; omega)
                                                     | (skip
                                                        refine e_bipush 293 dX12_next_291 (by decide) rfl ?_
                                                        refine e_icmp_ne 296 301 dX12_next_293 (by decide) (by decide) (by decide) rfl (fun _ => ?_) (fun h => absurd h (by decide))
                                                        refine e_bipush 303 dX12_next_301 (by decide) rfl ?_
                                                        refine e_puti (j := 9) 306 fl_12_107 dX12_next_303 at_928 rfl rfl rfl (by decide) rfl ?_
                                                        refine e_vret dX12_next_306 ?_
                                                        omega))
                                            · first
                                               | (exfalso; omega)
                                               | (skip
                                                  refine e_bipush 280 dX12_next_278 (by decide) rfl ?_
                                                  refine e_goto 303 dX12_next_280 (by decide) ?_
                                                  refine e_puti (j := 9) 306 fl_12_107 dX12_next_303 at_928 rfl rfl rfl (by decide) rfl ?_
                                                  refine e_vret dX12_next_306 ?_
                                                  first
                                                    | (exfalso; omega)
                                                    | (have hB : tBe (M 931) n q = q + 1 := by
                                                         unfold tBe
                                                         rw [if_neg (by omega), if_neg (by omega), if_neg (by omega)]
                                                       have hK : tKd (M 931) n q = 23 := by
                                                         unfold tKd
                                                         rw [if_neg (by omega), if_neg (by omega), if_neg (by omega), if_neg (by omega), if_pos (by omega)]
                                                       have hN : tNu (M 931) n q s.2.2.2.1 = s.2.2.2.1 := by
                                                         unfold tNu
                                                         rw [if_neg (by omega), if_neg (by omega), if_neg (by omega)]
                                                       rw [hK, hN, hB] at h
                                                       simp (disch := omega) only [put_r6, put_w6, put_r7, put_w7, put_r9, put_w9, put_r10, put_w10, put_r11, put_w11, put_r12, put_w12, put_r13, put_w13, put_r14, put_w14, put_r15, put_w15, put_ra, put_r8, put_r0, put_rt, put_wa, u1, u2, hn8]
                                                       exact h)))
                                      · dsimp only [jpush]
                                        (try simp (disch := omega) only [put_r6, put_w6, put_r7, put_w7, put_r9, put_w9, put_r10, put_w10, put_r11, put_w11, put_r12, put_w12, put_r13, put_w13, put_r14, put_w14, put_r15, put_w15, put_ra, put_r8, put_r0, put_rt, put_wa, u1, u2, hn8] at w270)
                                        (try simp (disch := omega) only [put_r6, put_w6, put_r7, put_w7, put_r9, put_w9, put_r10, put_w10, put_r11, put_w11, put_r12, put_w12, put_r13, put_w13, put_r14, put_w14, put_r15, put_w15, put_ra, put_r8, put_r0, put_rt, put_wa, u1, u2, hn8])
                                        first
                                         | (exfalso; omega)
                                         | (skip
                                            refine e_bipush 275 dX12_next_273 (by decide) rfl ?_
                                            refine e_icmp_ne 278 283 dX12_next_275 (by decide) (by decide) (by decide) rfl (fun _ => ?_) (fun h => absurd h (by decide))
                                            refine e_aload_n (i := 0) 284 dX12_next_283 rfl rfl rfl ?_
                                            refine e_aload_n (i := 0) 285 dX12_next_284 rfl rfl rfl ?_
                                            refine e_geti (j := 6) 288 fl_12_97 dX12_next_285 at_928 (by decide) rfl rfl (fun r285 => ?_)
                                            simp (disch := omega) only [put_r6, put_w6, put_r7, put_w7, put_r9, put_w9, put_r10, put_w10, put_r11, put_w11, put_r12, put_w12, put_r13, put_w13, put_r14, put_w14, put_r15, put_w15, put_ra, put_r8, put_r0, put_rt, put_wa, u1, u2, hn8] at r285 ⊢
                                            refine e_callV 291 mt_yX12_see mv_yX12_see wd_1397 (by decide) dX12_next_288 at_928 jc_12 rfl rfl rfl (Nat.le_of_ble_eq_true rfl) (jroom (by decide)) rfl (m_see hT (by (try simp (disch := omega) only [put_r6, put_w6, put_r7, put_w7, put_r9, put_w9, put_r10, put_w10, put_r11, put_w11, put_r12, put_w12, put_r13, put_w13, put_r14, put_w14, put_r15, put_w15, put_ra, put_r8, put_r0, put_rt, put_wa, u1, u2, hn8]); omega) (fun w288 => ?_) (fun w288 => ?_))
                                            · dsimp only [jpush]
                                              (try simp (disch := omega) only [put_r6, put_w6, put_r7, put_w7, put_r9, put_w9, put_r10, put_w10, put_r11, put_w11, put_r12, put_w12, put_r13, put_w13, put_r14, put_w14, put_r15, put_w15, put_ra, put_r8, put_r0, put_rt, put_wa, u1, u2, hn8] at w288)
                                              (try simp (disch := omega) only [put_r6, put_w6, put_r7, put_w7, put_r9, put_w9, put_r10, put_w10, put_r11, put_w11, put_r12, put_w12, put_r13, put_w13, put_r14, put_w14, put_r15, put_w15, put_ra, put_r8, put_r0, put_rt, put_wa, u1, u2, hn8])
                                              first
                                               | (exfalso; omega)
                                               | (skip
                                                  refine e_bipush 293 dX12_next_291 (by decide) rfl ?_
                                                  refine e_icmp_ne 296 301 dX12_next_293 (by omega) (by decide) (by decide) rfl (fun b293 => ?_) (fun b293 => ?_)
                                                  · first
                                                     | (exfalso; omega)
                                                     | (skip
                                                        refine e_bipush 303 dX12_next_301 (by decide) rfl ?_
                                                        refine e_puti (j := 9) 306 fl_12_107 dX12_next_303 at_928 rfl rfl rfl (by decide) rfl ?_
                                                        refine e_vret dX12_next_306 ?_
                                                        first
                                                          | (exfalso; omega)
                                                          | (have hB : tBe (M 931) n q = q + 1 := by
                                                               unfold tBe
                                                               rw [if_neg (by omega), if_neg (by omega), if_neg (by omega)]
                                                             have hK : tKd (M 931) n q = 26 := by
                                                               unfold tKd
                                                               rw [if_neg (by omega), if_neg (by omega), if_neg (by omega), if_neg (by omega), if_neg (by omega), if_neg (by omega)]
                                                             have hN : tNu (M 931) n q s.2.2.2.1 = s.2.2.2.1 := by
                                                               unfold tNu
                                                               rw [if_neg (by omega), if_neg (by omega), if_neg (by omega)]
                                                             rw [hK, hN, hB] at h
                                                             simp (disch := omega) only [put_r6, put_w6, put_r7, put_w7, put_r9, put_w9, put_r10, put_w10, put_r11, put_w11, put_r12, put_w12, put_r13, put_w13, put_r14, put_w14, put_r15, put_w15, put_ra, put_r8, put_r0, put_rt, put_wa, u1, u2, hn8]
                                                             exact h))
                                                  · first
                                                     | (exfalso; omega)
                                                     | (skip
                                                        refine e_bipush 298 dX12_next_296 (by decide) rfl ?_
                                                        refine e_goto 303 dX12_next_298 (by decide) ?_
                                                        refine e_puti (j := 9) 306 fl_12_107 dX12_next_303 at_928 rfl rfl rfl (by decide) rfl ?_
                                                        refine e_vret dX12_next_306 ?_
                                                        first
                                                          | (exfalso; omega)
                                                          | (have hB : tBe (M 931) n q = q + 1 := by
                                                               unfold tBe
                                                               rw [if_neg (by omega), if_neg (by omega), if_neg (by omega)]
                                                             have hK : tKd (M 931) n q = 24 := by
                                                               unfold tKd
                                                               rw [if_neg (by omega), if_neg (by omega), if_neg (by omega), if_neg (by omega), if_neg (by omega), if_pos (by omega)]
                                                             have hN : tNu (M 931) n q s.2.2.2.1 = s.2.2.2.1 := by
                                                               unfold tNu
                                                               rw [if_neg (by omega), if_neg (by omega), if_neg (by omega)]
                                                             rw [hK, hN, hB] at h
                                                             simp (disch := omega) only [put_r6, put_w6, put_r7, put_w7, put_r9, put_w9, put_r10, put_w10, put_r11, put_w11, put_r12, put_w12, put_r13, put_w13, put_r14, put_w14, put_r15, put_w15, put_ra, put_r8, put_r0, put_rt, put_wa, u1, u2, hn8]
                                                             exact h)))
                                            · dsimp only [jpush]
                                              (try simp (disch := omega) only [put_r6, put_w6, put_r7, put_w7, put_r9, put_w9, put_r10, put_w10, put_r11, put_w11, put_r12, put_w12, put_r13, put_w13, put_r14, put_w14, put_r15, put_w15, put_ra, put_r8, put_r0, put_rt, put_wa, u1, u2, hn8] at w288)
                                              (try simp (disch := omega) only [put_r6, put_w6, put_r7, put_w7, put_r9, put_w9, put_r10, put_w10, put_r11, put_w11, put_r12, put_w12, put_r13, put_w13, put_r14, put_w14, put_r15, put_w15, put_ra, put_r8, put_r0, put_rt, put_wa, u1, u2, hn8])
                                              first
                                               | (exfalso; omega)
                                               | (skip
                                                  refine e_bipush 293 dX12_next_291 (by decide) rfl ?_
                                                  refine e_icmp_ne 296 301 dX12_next_293 (by decide) (by decide) (by decide) rfl (fun _ => ?_) (fun h => absurd h (by decide))
                                                  refine e_bipush 303 dX12_next_301 (by decide) rfl ?_
                                                  refine e_puti (j := 9) 306 fl_12_107 dX12_next_303 at_928 rfl rfl rfl (by decide) rfl ?_
                                                  refine e_vret dX12_next_306 ?_
                                                  omega)))))
                    · dsimp only [jpush]
                      (try simp (disch := omega) only [put_r6, put_w6, put_r7, put_w7, put_r9, put_w9, put_r10, put_w10, put_r11, put_w11, put_r12, put_w12, put_r13, put_w13, put_r14, put_w14, put_r15, put_w15, put_ra, put_r8, put_r0, put_rt, put_wa, u1, u2, hn8] at w132)
                      (try simp (disch := omega) only [put_r6, put_w6, put_r7, put_w7, put_r9, put_w9, put_r10, put_w10, put_r11, put_w11, put_r12, put_w12, put_r13, put_w13, put_r14, put_w14, put_r15, put_w15, put_ra, put_r8, put_r0, put_rt, put_wa, u1, u2, hn8])
                      first
                       | (exfalso; omega)
                       | (skip
                          refine e_callS 138 mt_yX12_isDigit ms_yX12_isDigit wd_1411 (by decide) dX12_next_135 rfl rfl (Nat.le_of_ble_eq_true rfl) (jroom (by decide)) rfl (m_isDigit (by (try simp (disch := omega) only [put_r6, put_w6, put_r7, put_w7, put_r9, put_w9, put_r10, put_w10, put_r11, put_w11, put_r12, put_w12, put_r13, put_w13, put_r14, put_w14, put_r15, put_w15, put_ra, put_r8, put_r0, put_rt, put_wa, u1, u2, hn8]); omega) (fun w135 => ?_) (fun w135 => ?_))
                          · dsimp only [jpush]
                            (try simp (disch := omega) only [put_r6, put_w6, put_r7, put_w7, put_r9, put_w9, put_r10, put_w10, put_r11, put_w11, put_r12, put_w12, put_r13, put_w13, put_r14, put_w14, put_r15, put_w15, put_ra, put_r8, put_r0, put_rt, put_wa, u1, u2, hn8] at w135)
                            (try simp (disch := omega) only [put_r6, put_w6, put_r7, put_w7, put_r9, put_w9, put_r10, put_w10, put_r11, put_w11, put_r12, put_w12, put_r13, put_w13, put_r14, put_w14, put_r15, put_w15, put_ra, put_r8, put_r0, put_rt, put_wa, u1, u2, hn8])
                            first
                             | (exfalso; omega)
                             | (skip
                                refine e_if_eq 141 236 dX12_next_138 (by decide) (by decide) rfl (fun h => absurd h (by decide)) (fun _ => ?_)
                                refine e_aload_n (i := 0) 142 dX12_next_141 rfl rfl rfl ?_
                                refine e_iconst 143 dX12_next_142 rfl ?_
                                refine e_puti (j := 10) 146 fl_12_120 dX12_next_143 at_928 rfl rfl rfl (by decide) rfl ?_
                                have hB : tBe (M 931) n q = tDg (M 931) (n - q).toNat q := by
                                  unfold tBe
                                  rw [if_neg (by omega), if_neg (by omega), if_pos (by omega)]
                                have hr := tDg_rng (t := M 931) (n - q).toNat q
                                simp (disch := omega) only [put_r6, put_w6, put_r7, put_w7, put_r9, put_w9, put_r10, put_w10, put_r11, put_w11, put_r12, put_w12, put_r13, put_w13, put_r14, put_w14, put_r15, put_w15, put_ra, put_r8, put_r0, put_rt, put_wa, u1, u2, hn8]
                                have h00 : tNum (M 931) q (q - q) = 0 := by
                                  rw [tNum, if_pos (by omega)]
                                rw [← h00]
                                refine ln_d hT (by omega) (n - q).toNat q (by omega) (by omega) ?_
                                rw [← hB] at hr ⊢
                                refine e_aload_n (i := 0) 210 dX12_next_209 rfl rfl rfl ?_
                                refine e_aload_n (i := 0) 211 dX12_next_210 rfl rfl rfl ?_
                                refine e_geti (j := 7) 214 fl_12_100 dX12_next_211 at_928 (by decide) rfl rfl (fun r211 => ?_)
                                simp (disch := omega) only [put_r6, put_w6, put_r7, put_w7, put_r9, put_w9, put_r10, put_w10, put_r11, put_w11, put_r12, put_w12, put_r13, put_w13, put_r14, put_w14, put_r15, put_w15, put_ra, put_r8, put_r0, put_rt, put_wa, u1, u2, hn8] at r211 ⊢
                                refine e_aload_n (i := 0) 215 dX12_next_214 rfl rfl rfl ?_
                                refine e_geti (j := 6) 218 fl_12_97 dX12_next_215 at_928 (by decide) rfl rfl (fun r215 => ?_)
                                simp (disch := omega) only [put_r6, put_w6, put_r7, put_w7, put_r9, put_w9, put_r10, put_w10, put_r11, put_w11, put_r12, put_w12, put_r13, put_w13, put_r14, put_w14, put_r15, put_w15, put_ra, put_r8, put_r0, put_rt, put_wa, u1, u2, hn8] at r215 ⊢
                                refine e_isub 219 dX12_next_218 rfl ?_
                                refine e_iconst 220 dX12_next_219 rfl ?_
                                refine e_icmp_le 223 228 dX12_next_220 (by omega) (by decide) (by decide) rfl (fun b220 => ?_) (fun b220 => ?_)
                                · skip
                                  refine e_bipush 230 dX12_next_228 (by decide) rfl ?_
                                  refine e_puti (j := 9) 233 fl_12_107 dX12_next_230 at_928 rfl rfl rfl (by decide) rfl ?_
                                  refine e_goto 306 dX12_next_233 (by decide) ?_
                                  refine e_vret dX12_next_306 ?_
                                  first
                                    | (exfalso; omega)
                                    | (have hK : tKd (M 931) n q = 21 := by
                                         unfold tKd
                                         rw [if_neg (by omega), if_neg (by omega), if_pos (by omega), if_neg (by omega)]
                                       have hN : tNu (M 931) n q s.2.2.2.1 = tNum (M 931) q (tBe (M 931) n q - q) := by
                                         unfold tNu
                                         rw [if_neg (by omega), if_neg (by omega), if_pos (by omega)]
                                       rw [hK, hN] at h
                                       simp (disch := omega) only [put_r6, put_w6, put_r7, put_w7, put_r9, put_w9, put_r10, put_w10, put_r11, put_w11, put_r12, put_w12, put_r13, put_w13, put_r14, put_w14, put_r15, put_w15, put_ra, put_r8, put_r0, put_rt, put_wa, u1, u2, hn8]
                                       exact h)
                                · skip
                                  refine e_bipush 225 dX12_next_223 (by decide) rfl ?_
                                  refine e_goto 230 dX12_next_225 (by decide) ?_
                                  refine e_puti (j := 9) 233 fl_12_107 dX12_next_230 at_928 rfl rfl rfl (by decide) rfl ?_
                                  refine e_goto 306 dX12_next_233 (by decide) ?_
                                  refine e_vret dX12_next_306 ?_
                                  first
                                    | (exfalso; omega)
                                    | (have hK : tKd (M 931) n q = 26 := by
                                         unfold tKd
                                         rw [if_neg (by omega), if_neg (by omega), if_pos (by omega), if_pos (by omega)]
                                       have hN : tNu (M 931) n q s.2.2.2.1 = tNum (M 931) q (tBe (M 931) n q - q) := by
                                         unfold tNu
                                         rw [if_neg (by omega), if_neg (by omega), if_pos (by omega)]
                                       rw [hK, hN] at h
                                       simp (disch := omega) only [put_r6, put_w6, put_r7, put_w7, put_r9, put_w9, put_r10, put_w10, put_r11, put_w11, put_r12, put_w12, put_r13, put_w13, put_r14, put_w14, put_r15, put_w15, put_ra, put_r8, put_r0, put_rt, put_wa, u1, u2, hn8]
                                       exact h))
                          · dsimp only [jpush]
                            (try simp (disch := omega) only [put_r6, put_w6, put_r7, put_w7, put_r9, put_w9, put_r10, put_w10, put_r11, put_w11, put_r12, put_w12, put_r13, put_w13, put_r14, put_w14, put_r15, put_w15, put_ra, put_r8, put_r0, put_rt, put_wa, u1, u2, hn8] at w135)
                            (try simp (disch := omega) only [put_r6, put_w6, put_r7, put_w7, put_r9, put_w9, put_r10, put_w10, put_r11, put_w11, put_r12, put_w12, put_r13, put_w13, put_r14, put_w14, put_r15, put_w15, put_ra, put_r8, put_r0, put_rt, put_wa, u1, u2, hn8])
                            first
                             | (exfalso; omega)
                             | (skip
                                refine e_if_eq 141 236 dX12_next_138 (by decide) (by decide) rfl (fun _ => ?_) (fun h => absurd h (by decide))
                                refine e_aload_n (i := 0) 237 dX12_next_236 rfl rfl rfl ?_
                                refine e_dup 238 dX12_next_237 rfl rfl ?_
                                refine e_geti (j := 7) 241 fl_12_100 dX12_next_238 at_928 (by decide) rfl rfl (fun r238 => ?_)
                                simp (disch := omega) only [put_r6, put_w6, put_r7, put_w7, put_r9, put_w9, put_r10, put_w10, put_r11, put_w11, put_r12, put_w12, put_r13, put_w13, put_r14, put_w14, put_r15, put_w15, put_ra, put_r8, put_r0, put_rt, put_wa, u1, u2, hn8] at r238 ⊢
                                refine e_iconst 242 dX12_next_241 rfl ?_
                                refine e_iadd 243 dX12_next_242 rfl ?_
                                refine e_puti (j := 7) 246 fl_12_100 dX12_next_243 at_928 rfl rfl rfl (by omega) rfl ?_
                                refine e_aload_n (i := 0) 247 dX12_next_246 rfl rfl rfl ?_
                                refine e_aload_n (i := 0) 248 dX12_next_247 rfl rfl rfl ?_
                                refine e_aload_n (i := 0) 249 dX12_next_248 rfl rfl rfl ?_
                                refine e_geti (j := 6) 252 fl_12_97 dX12_next_249 at_928 (by decide) rfl rfl (fun r249 => ?_)
                                simp (disch := omega) only [put_r6, put_w6, put_r7, put_w7, put_r9, put_w9, put_r10, put_w10, put_r11, put_w11, put_r12, put_w12, put_r13, put_w13, put_r14, put_w14, put_r15, put_w15, put_ra, put_r8, put_r0, put_rt, put_wa, u1, u2, hn8] at r249 ⊢
                                refine e_callV 255 mt_yX12_see mv_yX12_see wd_1397 (by decide) dX12_next_252 at_928 jc_12 rfl rfl rfl (Nat.le_of_ble_eq_true rfl) (jroom (by decide)) rfl (m_see hT (by (try simp (disch := omega) only [put_r6, put_w6, put_r7, put_w7, put_r9, put_w9, put_r10, put_w10, put_r11, put_w11, put_r12, put_w12, put_r13, put_w13, put_r14, put_w14, put_r15, put_w15, put_ra, put_r8, put_r0, put_rt, put_wa, u1, u2, hn8]); omega) (fun w252 => ?_) (fun w252 => ?_))
                                · dsimp only [jpush]
                                  (try simp (disch := omega) only [put_r6, put_w6, put_r7, put_w7, put_r9, put_w9, put_r10, put_w10, put_r11, put_w11, put_r12, put_w12, put_r13, put_w13, put_r14, put_w14, put_r15, put_w15, put_ra, put_r8, put_r0, put_rt, put_wa, u1, u2, hn8] at w252)
                                  (try simp (disch := omega) only [put_r6, put_w6, put_r7, put_w7, put_r9, put_w9, put_r10, put_w10, put_r11, put_w11, put_r12, put_w12, put_r13, put_w13, put_r14, put_w14, put_r15, put_w15, put_ra, put_r8, put_r0, put_rt, put_wa, u1, u2, hn8])
                                  first
                                   | (exfalso; omega)
                                   | (skip
                                      refine e_bipush 257 dX12_next_255 (by decide) rfl ?_
                                      refine e_icmp_ne 260 265 dX12_next_257 (by omega) (by decide) (by decide) rfl (fun b257 => ?_) (fun b257 => ?_)
                                      · first
                                         | (exfalso; omega)
                                         | (skip
                                            refine e_aload_n (i := 0) 266 dX12_next_265 rfl rfl rfl ?_
                                            refine e_aload_n (i := 0) 267 dX12_next_266 rfl rfl rfl ?_
                                            refine e_geti (j := 6) 270 fl_12_97 dX12_next_267 at_928 (by decide) rfl rfl (fun r267 => ?_)
                                            simp (disch := omega) only [put_r6, put_w6, put_r7, put_w7, put_r9, put_w9, put_r10, put_w10, put_r11, put_w11, put_r12, put_w12, put_r13, put_w13, put_r14, put_w14, put_r15, put_w15, put_ra, put_r8, put_r0, put_rt, put_wa, u1, u2, hn8] at r267 ⊢
                                            refine e_callV 273 mt_yX12_see mv_yX12_see wd_1397 (by decide) dX12_next_270 at_928 jc_12 rfl rfl rfl (Nat.le_of_ble_eq_true rfl) (jroom (by decide)) rfl (m_see hT (by (try simp (disch := omega) only [put_r6, put_w6, put_r7, put_w7, put_r9, put_w9, put_r10, put_w10, put_r11, put_w11, put_r12, put_w12, put_r13, put_w13, put_r14, put_w14, put_r15, put_w15, put_ra, put_r8, put_r0, put_rt, put_wa, u1, u2, hn8]); omega) (fun w270 => ?_) (fun w270 => ?_))
                                            · dsimp only [jpush]
                                              (try simp (disch := omega) only [put_r6, put_w6, put_r7, put_w7, put_r9, put_w9, put_r10, put_w10, put_r11, put_w11, put_r12, put_w12, put_r13, put_w13, put_r14, put_w14, put_r15, put_w15, put_ra, put_r8, put_r0, put_rt, put_wa, u1, u2, hn8] at w270)
                                              (try simp (disch := omega) only [put_r6, put_w6, put_r7, put_w7, put_r9, put_w9, put_r10, put_w10, put_r11, put_w11, put_r12, put_w12, put_r13, put_w13, put_r14, put_w14, put_r15, put_w15, put_ra, put_r8, put_r0, put_rt, put_wa, u1, u2, hn8])
                                              first
                                               | (exfalso; omega)
                                               | (skip
                                                  refine e_bipush 275 dX12_next_273 (by decide) rfl ?_
                                                  refine e_icmp_ne 278 283 dX12_next_275 (by omega) (by decide) (by decide) rfl (fun b275 => ?_) (fun b275 => ?_)
                                                  · first
                                                     | (exfalso; omega)
                                                     | (skip
                                                        refine e_aload_n (i := 0) 284 dX12_next_283 rfl rfl rfl ?_
                                                        refine e_aload_n (i := 0) 285 dX12_next_284 rfl rfl rfl ?_
                                                        refine e_geti (j := 6) 288 fl_12_97 dX12_next_285 at_928 (by decide) rfl rfl (fun r285 => ?_)
                                                        simp (disch := omega) only [put_r6, put_w6, put_r7, put_w7, put_r9, put_w9, put_r10, put_w10, put_r11, put_w11, put_r12, put_w12, put_r13, put_w13, put_r14, put_w14, put_r15, put_w15, put_ra, put_r8, put_r0, put_rt, put_wa, u1, u2, hn8] at r285 ⊢
                                                        refine e_callV 291 mt_yX12_see mv_yX12_see wd_1397 (by decide) dX12_next_288 at_928 jc_12 rfl rfl rfl (Nat.le_of_ble_eq_true rfl) (jroom (by decide)) rfl (m_see hT (by (try simp (disch := omega) only [put_r6, put_w6, put_r7, put_w7, put_r9, put_w9, put_r10, put_w10, put_r11, put_w11, put_r12, put_w12, put_r13, put_w13, put_r14, put_w14, put_r15, put_w15, put_ra, put_r8, put_r0, put_rt, put_wa, u1, u2, hn8]); omega) (fun w288 => ?_) (fun w288 => ?_))
                                                        · dsimp only [jpush]
                                                          (try simp (disch := omega) only [put_r6, put_w6, put_r7, put_w7, put_r9, put_w9, put_r10, put_w10, put_r11, put_w11, put_r12, put_w12, put_r13, put_w13, put_r14, put_w14, put_r15, put_w15, put_ra, put_r8, put_r0, put_rt, put_wa, u1, u2, hn8] at w288)
                                                          (try simp (disch := omega) only [put_r6, put_w6, put_r7, put_w7, put_r9, put_w9, put_r10, put_w10, put_r11, put_w11, put_r12, put_w12, put_r13, put_w13, put_r14, put_w14, put_r15, put_w15, put_ra, put_r8, put_r0, put_rt, put_wa, u1, u2, hn8])
                                                          first
                                                           | (exfalso; omega)
                                                           | (skip
                                                              refine e_bipush 293 dX12_next_291 (by decide) rfl ?_
                                                              refine e_icmp_ne 296 301 dX12_next_293 (by omega) (by decide) (by decide) rfl (fun b293 => ?_) (fun b293 => ?_)
                                                              · first
                                                                 | (exfalso; omega)
                                                                 | (skip
                                                                    refine e_bipush 303 dX12_next_301 (by decide) rfl ?_
                                                                    refine e_puti (j := 9) 306 fl_12_107 dX12_next_303 at_928 rfl rfl rfl (by decide) rfl ?_
                                                                    refine e_vret dX12_next_306 ?_
                                                                    first
                                                                      | (exfalso; omega)
                                                                      | (have hB : tBe (M 931) n q = q + 1 := by
                                                                           unfold tBe
                                                                           rw [if_neg (by omega), if_neg (by omega), if_neg (by omega)]
                                                                         have hK : tKd (M 931) n q = 26 := by
                                                                           unfold tKd
                                                                           rw [if_neg (by omega), if_neg (by omega), if_neg (by omega), if_neg (by omega), if_neg (by omega), if_neg (by omega)]
                                                                         have hN : tNu (M 931) n q s.2.2.2.1 = s.2.2.2.1 := by
                                                                           unfold tNu
                                                                           rw [if_neg (by omega), if_neg (by omega), if_neg (by omega)]
                                                                         rw [hK, hN, hB] at h
                                                                         simp (disch := omega) only [put_r6, put_w6, put_r7, put_w7, put_r9, put_w9, put_r10, put_w10, put_r11, put_w11, put_r12, put_w12, put_r13, put_w13, put_r14, put_w14, put_r15, put_w15, put_ra, put_r8, put_r0, put_rt, put_wa, u1, u2, hn8]
                                                                         exact h))
                                                              · first
                                                                 | (exfalso; omega)
                                                                 | (skip
                                                                    refine e_bipush 298 dX12_next_296 (by decide) rfl ?_
                                                                    refine e_goto 303 dX12_next_298 (by decide) ?_
                                                                    refine e_puti (j := 9) 306 fl_12_107 dX12_next_303 at_928 rfl rfl rfl (by decide) rfl ?_
                                                                    refine e_vret dX12_next_306 ?_
                                                                    first
                                                                      | (exfalso; omega)
                                                                      | (have hB : tBe (M 931) n q = q + 1 := by
                                                                           unfold tBe
                                                                           rw [if_neg (by omega), if_neg (by omega), if_neg (by omega)]
                                                                         have hK : tKd (M 931) n q = 24 := by
                                                                           unfold tKd
                                                                           rw [if_neg (by omega), if_neg (by omega), if_neg (by omega), if_neg (by omega), if_neg (by omega), if_pos (by omega)]
                                                                         have hN : tNu (M 931) n q s.2.2.2.1 = s.2.2.2.1 := by
                                                                           unfold tNu
                                                                           rw [if_neg (by omega), if_neg (by omega), if_neg (by omega)]
                                                                         rw [hK, hN, hB] at h
                                                                         simp (disch := omega) only [put_r6, put_w6, put_r7, put_w7, put_r9, put_w9, put_r10, put_w10, put_r11, put_w11, put_r12, put_w12, put_r13, put_w13, put_r14, put_w14, put_r15, put_w15, put_ra, put_r8, put_r0, put_rt, put_wa, u1, u2, hn8]
                                                                         exact h)))
                                                        · dsimp only [jpush]
                                                          (try simp (disch := omega) only [put_r6, put_w6, put_r7, put_w7, put_r9, put_w9, put_r10, put_w10, put_r11, put_w11, put_r12, put_w12, put_r13, put_w13, put_r14, put_w14, put_r15, put_w15, put_ra, put_r8, put_r0, put_rt, put_wa, u1, u2, hn8] at w288)
                                                          (try simp (disch := omega) only [put_r6, put_w6, put_r7, put_w7, put_r9, put_w9, put_r10, put_w10, put_r11, put_w11, put_r12, put_w12, put_r13, put_w13, put_r14, put_w14, put_r15, put_w15, put_ra, put_r8, put_r0, put_rt, put_wa, u1, u2, hn8])
                                                          first
                                                           | (exfalso; omega)
                                                           | (skip
                                                              refine e_bipush 293 dX12_next_291 (by decide) rfl ?_
                                                              refine e_icmp_ne 296 301 dX12_next_293 (by decide) (by decide) (by decide) rfl (fun _ => ?_) (fun h => absurd h (by decide))
                                                              refine e_bipush 303 dX12_next_301 (by decide) rfl ?_
                                                              refine e_puti (j := 9) 306 fl_12_107 dX12_next_303 at_928 rfl rfl rfl (by decide) rfl ?_
                                                              refine e_vret dX12_next_306 ?_
                                                              omega))
                                                  · first
                                                     | (exfalso; omega)
                                                     | (skip
                                                        refine e_bipush 280 dX12_next_278 (by decide) rfl ?_
                                                        refine e_goto 303 dX12_next_280 (by decide) ?_
                                                        refine e_puti (j := 9) 306 fl_12_107 dX12_next_303 at_928 rfl rfl rfl (by decide) rfl ?_
                                                        refine e_vret dX12_next_306 ?_
                                                        first
                                                          | (exfalso; omega)
                                                          | (have hB : tBe (M 931) n q = q + 1 := by
                                                               unfold tBe
                                                               rw [if_neg (by omega), if_neg (by omega), if_neg (by omega)]
                                                             have hK : tKd (M 931) n q = 23 := by
                                                               unfold tKd
                                                               rw [if_neg (by omega), if_neg (by omega), if_neg (by omega), if_neg (by omega), if_pos (by omega)]
                                                             have hN : tNu (M 931) n q s.2.2.2.1 = s.2.2.2.1 := by
                                                               unfold tNu
                                                               rw [if_neg (by omega), if_neg (by omega), if_neg (by omega)]
                                                             rw [hK, hN, hB] at h
                                                             simp (disch := omega) only [put_r6, put_w6, put_r7, put_w7, put_r9, put_w9, put_r10, put_w10, put_r11, put_w11, put_r12, put_w12, put_r13, put_w13, put_r14, put_w14, put_r15, put_w15, put_ra, put_r8, put_r0, put_rt, put_wa, u1, u2, hn8]
                                                             exact h)))
                                            · dsimp only [jpush]
                                              (try simp (disch := omega) only [put_r6, put_w6, put_r7, put_w7, put_r9, put_w9, put_r10, put_w10, put_r11, put_w11, put_r12, put_w12, put_r13, put_w13, put_r14, put_w14, put_r15, put_w15, put_ra, put_r8, put_r0, put_rt, put_wa, u1, u2, hn8] at w270)
                                              (try simp (disch := omega) only [put_r6, put_w6, put_r7, put_w7, put_r9, put_w9, put_r10, put_w10, put_r11, put_w11, put_r12, put_w12, put_r13, put_w13, put_r14, put_w14, put_r15, put_w15, put_ra, put_r8, put_r0, put_rt, put_wa, u1, u2, hn8])
                                              first
                                               | (exfalso; omega)
                                               | (skip
                                                  refine e_bipush 275 dX12_next_273 (by decide) rfl ?_
                                                  refine e_icmp_ne 278 283 dX12_next_275 (by decide) (by decide) (by decide) rfl (fun _ => ?_) (fun h => absurd h (by decide))
                                                  refine e_aload_n (i := 0) 284 dX12_next_283 rfl rfl rfl ?_
                                                  refine e_aload_n (i := 0) 285 dX12_next_284 rfl rfl rfl ?_
                                                  refine e_geti (j := 6) 288 fl_12_97 dX12_next_285 at_928 (by decide) rfl rfl (fun r285 => ?_)
                                                  simp (disch := omega) only [put_r6, put_w6, put_r7, put_w7, put_r9, put_w9, put_r10, put_w10, put_r11, put_w11, put_r12, put_w12, put_r13, put_w13, put_r14, put_w14, put_r15, put_w15, put_ra, put_r8, put_r0, put_rt, put_wa, u1, u2, hn8] at r285 ⊢
                                                  refine e_callV 291 mt_yX12_see mv_yX12_see wd_1397 (by decide) dX12_next_288 at_928 jc_12 rfl rfl rfl (Nat.le_of_ble_eq_true rfl) (jroom (by decide)) rfl (m_see hT (by (try simp (disch := omega) only [put_r6, put_w6, put_r7, put_w7, put_r9, put_w9, put_r10, put_w10, put_r11, put_w11, put_r12, put_w12, put_r13, put_w13, put_r14, put_w14, put_r15, put_w15, put_ra, put_r8, put_r0, put_rt, put_wa, u1, u2, hn8]); omega) (fun w288 => ?_) (fun w288 => ?_))
                                                  · dsimp only [jpush]
                                                    (try simp (disch := omega) only [put_r6, put_w6, put_r7, put_w7, put_r9, put_w9, put_r10, put_w10, put_r11, put_w11, put_r12, put_w12, put_r13, put_w13, put_r14, put_w14, put_r15, put_w15, put_ra, put_r8, put_r0, put_rt, put_wa, u1, u2, hn8] at w288)
                                                    (try simp (disch := omega) only [put_r6, put_w6, put_r7, put_w7, put_r9, put_w9, put_r10, put_w10, put_r11, put_w11, put_r12, put_w12, put_r13, put_w13, put_r14, put_w14, put_r15, put_w15, put_ra, put_r8, put_r0, put_rt, put_wa, u1, u2, hn8])
                                                    first
                                                     | (exfalso; omega)
                                                     | (skip
                                                        refine e_bipush 293 dX12_next_291 (by decide) rfl ?_
                                                        refine e_icmp_ne 296 301 dX12_next_293 (by omega) (by decide) (by decide) rfl (fun b293 => ?_) (fun b293 => ?_)
                                                        · first
                                                           | (exfalso; omega)
                                                           | (skip
                                                              refine e_bipush 303 dX12_next_301 (by decide) rfl ?_
                                                              refine e_puti (j := 9) 306 fl_12_107 dX12_next_303 at_928 rfl rfl rfl (by decide) rfl ?_
                                                              refine e_vret dX12_next_306 ?_
                                                              first
                                                                | (exfalso; omega)
                                                                | (have hB : tBe (M 931) n q = q + 1 := by
                                                                     unfold tBe
                                                                     rw [if_neg (by omega), if_neg (by omega), if_neg (by omega)]
                                                                   have hK : tKd (M 931) n q = 26 := by
                                                                     unfold tKd
                                                                     rw [if_neg (by omega), if_neg (by omega), if_neg (by omega), if_neg (by omega), if_neg (by omega), if_neg (by omega)]
                                                                   have hN : tNu (M 931) n q s.2.2.2.1 = s.2.2.2.1 := by
                                                                     unfold tNu
                                                                     rw [if_neg (by omega), if_neg (by omega), if_neg (by omega)]
                                                                   rw [hK, hN, hB] at h
                                                                   simp (disch := omega) only [put_r6, put_w6, put_r7, put_w7, put_r9, put_w9, put_r10, put_w10, put_r11, put_w11, put_r12, put_w12, put_r13, put_w13, put_r14, put_w14, put_r15, put_w15, put_ra, put_r8, put_r0, put_rt, put_wa, u1, u2, hn8]
                                                                   exact h))
                                                        · first
                                                           | (exfalso; omega)
                                                           | (skip
                                                              refine e_bipush 298 dX12_next_296 (by decide) rfl ?_
                                                              refine e_goto 303 dX12_next_298 (by decide) ?_
                                                              refine e_puti (j := 9) 306 fl_12_107 dX12_next_303 at_928 rfl rfl rfl (by decide) rfl ?_
                                                              refine e_vret dX12_next_306 ?_
                                                              first
                                                                | (exfalso; omega)
                                                                | (have hB : tBe (M 931) n q = q + 1 := by
                                                                     unfold tBe
                                                                     rw [if_neg (by omega), if_neg (by omega), if_neg (by omega)]
                                                                   have hK : tKd (M 931) n q = 24 := by
                                                                     unfold tKd
                                                                     rw [if_neg (by omega), if_neg (by omega), if_neg (by omega), if_neg (by omega), if_neg (by omega), if_pos (by omega)]
                                                                   have hN : tNu (M 931) n q s.2.2.2.1 = s.2.2.2.1 := by
                                                                     unfold tNu
                                                                     rw [if_neg (by omega), if_neg (by omega), if_neg (by omega)]
                                                                   rw [hK, hN, hB] at h
                                                                   simp (disch := omega) only [put_r6, put_w6, put_r7, put_w7, put_r9, put_w9, put_r10, put_w10, put_r11, put_w11, put_r12, put_w12, put_r13, put_w13, put_r14, put_w14, put_r15, put_w15, put_ra, put_r8, put_r0, put_rt, put_wa, u1, u2, hn8]
                                                                   exact h)))
                                                  · dsimp only [jpush]
                                                    (try simp (disch := omega) only [put_r6, put_w6, put_r7, put_w7, put_r9, put_w9, put_r10, put_w10, put_r11, put_w11, put_r12, put_w12, put_r13, put_w13, put_r14, put_w14, put_r15, put_w15, put_ra, put_r8, put_r0, put_rt, put_wa, u1, u2, hn8] at w288)
                                                    (try simp (disch := omega) only [put_r6, put_w6, put_r7, put_w7, put_r9, put_w9, put_r10, put_w10, put_r11, put_w11, put_r12, put_w12, put_r13, put_w13, put_r14, put_w14, put_r15, put_w15, put_ra, put_r8, put_r0, put_rt, put_wa, u1, u2, hn8])
                                                    first
                                                     | (exfalso; omega)
                                                     | (skip
                                                        refine e_bipush 293 dX12_next_291 (by decide) rfl ?_
                                                        refine e_icmp_ne 296 301 dX12_next_293 (by decide) (by decide) (by decide) rfl (fun _ => ?_) (fun h => absurd h (by decide))
                                                        refine e_bipush 303 dX12_next_301 (by decide) rfl ?_
                                                        refine e_puti (j := 9) 306 fl_12_107 dX12_next_303 at_928 rfl rfl rfl (by decide) rfl ?_
                                                        refine e_vret dX12_next_306 ?_
                                                        omega)))
                                      · first
                                         | (exfalso; omega)
                                         | (skip
                                            refine e_bipush 262 dX12_next_260 (by decide) rfl ?_
                                            refine e_goto 303 dX12_next_262 (by decide) ?_
                                            refine e_puti (j := 9) 306 fl_12_107 dX12_next_303 at_928 rfl rfl rfl (by decide) rfl ?_
                                            refine e_vret dX12_next_306 ?_
                                            first
                                              | (exfalso; omega)
                                              | (have hB : tBe (M 931) n q = q + 1 := by
                                                   unfold tBe
                                                   rw [if_neg (by omega), if_neg (by omega), if_neg (by omega)]
                                                 have hK : tKd (M 931) n q = 22 := by
                                                   unfold tKd
                                                   rw [if_neg (by omega), if_neg (by omega), if_neg (by omega), if_pos (by omega)]
                                                 have hN : tNu (M 931) n q s.2.2.2.1 = s.2.2.2.1 := by
                                                   unfold tNu
                                                   rw [if_neg (by omega), if_neg (by omega), if_neg (by omega)]
                                                 rw [hK, hN, hB] at h
                                                 simp (disch := omega) only [put_r6, put_w6, put_r7, put_w7, put_r9, put_w9, put_r10, put_w10, put_r11, put_w11, put_r12, put_w12, put_r13, put_w13, put_r14, put_w14, put_r15, put_w15, put_ra, put_r8, put_r0, put_rt, put_wa, u1, u2, hn8]
                                                 exact h)))
                                · dsimp only [jpush]
                                  (try simp (disch := omega) only [put_r6, put_w6, put_r7, put_w7, put_r9, put_w9, put_r10, put_w10, put_r11, put_w11, put_r12, put_w12, put_r13, put_w13, put_r14, put_w14, put_r15, put_w15, put_ra, put_r8, put_r0, put_rt, put_wa, u1, u2, hn8] at w252)
                                  (try simp (disch := omega) only [put_r6, put_w6, put_r7, put_w7, put_r9, put_w9, put_r10, put_w10, put_r11, put_w11, put_r12, put_w12, put_r13, put_w13, put_r14, put_w14, put_r15, put_w15, put_ra, put_r8, put_r0, put_rt, put_wa, u1, u2, hn8])
                                  first
                                   | (exfalso; omega)
                                   | (skip
                                      refine e_bipush 257 dX12_next_255 (by decide) rfl ?_
                                      refine e_icmp_ne 260 265 dX12_next_257 (by decide) (by decide) (by decide) rfl (fun _ => ?_) (fun h => absurd h (by decide))
                                      refine e_aload_n (i := 0) 266 dX12_next_265 rfl rfl rfl ?_
                                      refine e_aload_n (i := 0) 267 dX12_next_266 rfl rfl rfl ?_
                                      refine e_geti (j := 6) 270 fl_12_97 dX12_next_267 at_928 (by decide) rfl rfl (fun r267 => ?_)
                                      simp (disch := omega) only [put_r6, put_w6, put_r7, put_w7, put_r9, put_w9, put_r10, put_w10, put_r11, put_w11, put_r12, put_w12, put_r13, put_w13, put_r14, put_w14, put_r15, put_w15, put_ra, put_r8, put_r0, put_rt, put_wa, u1, u2, hn8] at r267 ⊢
                                      refine e_callV 273 mt_yX12_see mv_yX12_see wd_1397 (by decide) dX12_next_270 at_928 jc_12 rfl rfl rfl (Nat.le_of_ble_eq_true rfl) (jroom (by decide)) rfl (m_see hT (by (try simp (disch := omega) only [put_r6, put_w6, put_r7, put_w7, put_r9, put_w9, put_r10, put_w10, put_r11, put_w11, put_r12, put_w12, put_r13, put_w13, put_r14, put_w14, put_r15, put_w15, put_ra, put_r8, put_r0, put_rt, put_wa, u1, u2, hn8]); omega) (fun w270 => ?_) (fun w270 => ?_))
                                      · dsimp only [jpush]
                                        (try simp (disch := omega) only [put_r6, put_w6, put_r7, put_w7, put_r9, put_w9, put_r10, put_w10, put_r11, put_w11, put_r12, put_w12, put_r13, put_w13, put_r14, put_w14, put_r15, put_w15, put_ra, put_r8, put_r0, put_rt, put_wa, u1, u2, hn8] at w270)
                                        (try simp (disch := omega) only [put_r6, put_w6, put_r7, put_w7, put_r9, put_w9, put_r10, put_w10, put_r11, put_w11, put_r12, put_w12, put_r13, put_w13, put_r14, put_w14, put_r15, put_w15, put_ra, put_r8, put_r0, put_rt, put_wa, u1, u2, hn8])
                                        first
                                         | (exfalso; omega)
                                         | (skip
                                            refine e_bipush 275 dX12_next_273 (by decide) rfl ?_
                                            refine e_icmp_ne 278 283 dX12_next_275 (by omega) (by decide) (by decide) rfl (fun b275 => ?_) (fun b275 => ?_)
                                            · first
                                               | (exfalso; omega)
                                               | (skip
                                                  refine e_aload_n (i := 0) 284 dX12_next_283 rfl rfl rfl ?_
                                                  refine e_aload_n (i := 0) 285 dX12_next_284 rfl rfl rfl ?_
                                                  refine e_geti (j := 6) 288 fl_12_97 dX12_next_285 at_928 (by decide) rfl rfl (fun r285 => ?_)
                                                  simp (disch := omega) only [put_r6, put_w6, put_r7, put_w7, put_r9, put_w9, put_r10, put_w10, put_r11, put_w11, put_r12, put_w12, put_r13, put_w13, put_r14, put_w14, put_r15, put_w15, put_ra, put_r8, put_r0, put_rt, put_wa, u1, u2, hn8] at r285 ⊢
                                                  refine e_callV 291 mt_yX12_see mv_yX12_see wd_1397 (by decide) dX12_next_288 at_928 jc_12 rfl rfl rfl (Nat.le_of_ble_eq_true rfl) (jroom (by decide)) rfl (m_see hT (by (try simp (disch := omega) only [put_r6, put_w6, put_r7, put_w7, put_r9, put_w9, put_r10, put_w10, put_r11, put_w11, put_r12, put_w12, put_r13, put_w13, put_r14, put_w14, put_r15, put_w15, put_ra, put_r8, put_r0, put_rt, put_wa, u1, u2, hn8]); omega) (fun w288 => ?_) (fun w288 => ?_))
                                                  · dsimp only [jpush]
                                                    (try simp (disch := omega) only [put_r6, put_w6, put_r7, put_w7, put_r9, put_w9, put_r10, put_w10, put_r11, put_w11, put_r12, put_w12, put_r13, put_w13, put_r14, put_w14, put_r15, put_w15, put_ra, put_r8, put_r0, put_rt, put_wa, u1, u2, hn8] at w288)
                                                    (try simp (disch := omega) only [put_r6, put_w6, put_r7, put_w7, put_r9, put_w9, put_r10, put_w10, put_r11, put_w11, put_r12, put_w12, put_r13, put_w13, put_r14, put_w14, put_r15, put_w15, put_ra, put_r8, put_r0, put_rt, put_wa, u1, u2, hn8])
                                                    first
                                                     | (exfalso; omega)
                                                     | (skip
                                                        refine e_bipush 293 dX12_next_291 (by decide) rfl ?_
                                                        refine e_icmp_ne 296 301 dX12_next_293 (by omega) (by decide) (by decide) rfl (fun b293 => ?_) (fun b293 => ?_)
                                                        · first
                                                           | (exfalso; omega)
                                                           | (skip
                                                              refine e_bipush 303 dX12_next_301 (by decide) rfl ?_
                                                              refine e_puti (j := 9) 306 fl_12_107 dX12_next_303 at_928 rfl rfl rfl (by decide) rfl ?_
                                                              refine e_vret dX12_next_306 ?_
                                                              first
                                                                | (exfalso; omega)
                                                                | (have hB : tBe (M 931) n q = q + 1 := by
                                                                     unfold tBe
                                                                     rw [if_neg (by omega), if_neg (by omega), if_neg (by omega)]
                                                                   have hK : tKd (M 931) n q = 26 := by
                                                                     unfold tKd
                                                                     rw [if_neg (by omega), if_neg (by omega), if_neg (by omega), if_neg (by omega), if_neg (by omega), if_neg (by omega)]
                                                                   have hN : tNu (M 931) n q s.2.2.2.1 = s.2.2.2.1 := by
                                                                     unfold tNu
                                                                     rw [if_neg (by omega), if_neg (by omega), if_neg (by omega)]
                                                                   rw [hK, hN, hB] at h
                                                                   simp (disch := omega) only [put_r6, put_w6, put_r7, put_w7, put_r9, put_w9, put_r10, put_w10, put_r11, put_w11, put_r12, put_w12, put_r13, put_w13, put_r14, put_w14, put_r15, put_w15, put_ra, put_r8, put_r0, put_rt, put_wa, u1, u2, hn8]
                                                                   exact h))
                                                        · first
                                                           | (exfalso; omega)
                                                           | (skip
                                                              refine e_bipush 298 dX12_next_296 (by decide) rfl ?_
                                                              refine e_goto 303 dX12_next_298 (by decide) ?_
                                                              refine e_puti (j := 9) 306 fl_12_107 dX12_next_303 at_928 rfl rfl rfl (by decide) rfl ?_
                                                              refine e_vret dX12_next_306 ?_
                                                              first
                                                                | (exfalso; omega)
                                                                | (have hB : tBe (M 931) n q = q + 1 := by
                                                                     unfold tBe
                                                                     rw [if_neg (by omega), if_neg (by omega), if_neg (by omega)]
                                                                   have hK : tKd (M 931) n q = 24 := by
                                                                     unfold tKd
                                                                     rw [if_neg (by omega), if_neg (by omega), if_neg (by omega), if_neg (by omega), if_neg (by omega), if_pos (by omega)]
                                                                   have hN : tNu (M 931) n q s.2.2.2.1 = s.2.2.2.1 := by
                                                                     unfold tNu
                                                                     rw [if_neg (by omega), if_neg (by omega), if_neg (by omega)]
                                                                   rw [hK, hN, hB] at h
                                                                   simp (disch := omega) only [put_r6, put_w6, put_r7, put_w7, put_r9, put_w9, put_r10, put_w10, put_r11, put_w11, put_r12, put_w12, put_r13, put_w13, put_r14, put_w14, put_r15, put_w15, put_ra, put_r8, put_r0, put_rt, put_wa, u1, u2, hn8]
                                                                   exact h)))
                                                  · dsimp only [jpush]
                                                    (try simp (disch := omega) only [put_r6, put_w6, put_r7, put_w7, put_r9, put_w9, put_r10, put_w10, put_r11, put_w11, put_r12, put_w12, put_r13, put_w13, put_r14, put_w14, put_r15, put_w15, put_ra, put_r8, put_r0, put_rt, put_wa, u1, u2, hn8] at w288)
                                                    (try simp (disch := omega) only [put_r6, put_w6, put_r7, put_w7, put_r9, put_w9, put_r10, put_w10, put_r11, put_w11, put_r12, put_w12, put_r13, put_w13, put_r14, put_w14, put_r15, put_w15, put_ra, put_r8, put_r0, put_rt, put_wa, u1, u2, hn8])
                                                    first
                                                     | (exfalso; omega)
                                                     | (skip
                                                        refine e_bipush 293 dX12_next_291 (by decide) rfl ?_
                                                        refine e_icmp_ne 296 301 dX12_next_293 (by decide) (by decide) (by decide) rfl (fun _ => ?_) (fun h => absurd h (by decide))
                                                        refine e_bipush 303 dX12_next_301 (by decide) rfl ?_
                                                        refine e_puti (j := 9) 306 fl_12_107 dX12_next_303 at_928 rfl rfl rfl (by decide) rfl ?_
                                                        refine e_vret dX12_next_306 ?_
                                                        omega))
                                            · first
                                               | (exfalso; omega)
                                               | (skip
                                                  refine e_bipush 280 dX12_next_278 (by decide) rfl ?_
                                                  refine e_goto 303 dX12_next_280 (by decide) ?_
                                                  refine e_puti (j := 9) 306 fl_12_107 dX12_next_303 at_928 rfl rfl rfl (by decide) rfl ?_
                                                  refine e_vret dX12_next_306 ?_
                                                  first
                                                    | (exfalso; omega)
                                                    | (have hB : tBe (M 931) n q = q + 1 := by
                                                         unfold tBe
                                                         rw [if_neg (by omega), if_neg (by omega), if_neg (by omega)]
                                                       have hK : tKd (M 931) n q = 23 := by
                                                         unfold tKd
                                                         rw [if_neg (by omega), if_neg (by omega), if_neg (by omega), if_neg (by omega), if_pos (by omega)]
                                                       have hN : tNu (M 931) n q s.2.2.2.1 = s.2.2.2.1 := by
                                                         unfold tNu
                                                         rw [if_neg (by omega), if_neg (by omega), if_neg (by omega)]
                                                       rw [hK, hN, hB] at h
                                                       simp (disch := omega) only [put_r6, put_w6, put_r7, put_w7, put_r9, put_w9, put_r10, put_w10, put_r11, put_w11, put_r12, put_w12, put_r13, put_w13, put_r14, put_w14, put_r15, put_w15, put_ra, put_r8, put_r0, put_rt, put_wa, u1, u2, hn8]
                                                       exact h)))
                                      · dsimp only [jpush]
                                        (try simp (disch := omega) only [put_r6, put_w6, put_r7, put_w7, put_r9, put_w9, put_r10, put_w10, put_r11, put_w11, put_r12, put_w12, put_r13, put_w13, put_r14, put_w14, put_r15, put_w15, put_ra, put_r8, put_r0, put_rt, put_wa, u1, u2, hn8] at w270)
                                        (try simp (disch := omega) only [put_r6, put_w6, put_r7, put_w7, put_r9, put_w9, put_r10, put_w10, put_r11, put_w11, put_r12, put_w12, put_r13, put_w13, put_r14, put_w14, put_r15, put_w15, put_ra, put_r8, put_r0, put_rt, put_wa, u1, u2, hn8])
                                        first
                                         | (exfalso; omega)
                                         | (skip
                                            refine e_bipush 275 dX12_next_273 (by decide) rfl ?_
                                            refine e_icmp_ne 278 283 dX12_next_275 (by decide) (by decide) (by decide) rfl (fun _ => ?_) (fun h => absurd h (by decide))
                                            refine e_aload_n (i := 0) 284 dX12_next_283 rfl rfl rfl ?_
                                            refine e_aload_n (i := 0) 285 dX12_next_284 rfl rfl rfl ?_
                                            refine e_geti (j := 6) 288 fl_12_97 dX12_next_285 at_928 (by decide) rfl rfl (fun r285 => ?_)
                                            simp (disch := omega) only [put_r6, put_w6, put_r7, put_w7, put_r9, put_w9, put_r10, put_w10, put_r11, put_w11, put_r12, put_w12, put_r13, put_w13, put_r14, put_w14, put_r15, put_w15, put_ra, put_r8, put_r0, put_rt, put_wa, u1, u2, hn8] at r285 ⊢
                                            refine e_callV 291 mt_yX12_see mv_yX12_see wd_1397 (by decide) dX12_next_288 at_928 jc_12 rfl rfl rfl (Nat.le_of_ble_eq_true rfl) (jroom (by decide)) rfl (m_see hT (by (try simp (disch := omega) only [put_r6, put_w6, put_r7, put_w7, put_r9, put_w9, put_r10, put_w10, put_r11, put_w11, put_r12, put_w12, put_r13, put_w13, put_r14, put_w14, put_r15, put_w15, put_ra, put_r8, put_r0, put_rt, put_wa, u1, u2, hn8]); omega) (fun w288 => ?_) (fun w288 => ?_))
                                            · dsimp only [jpush]
                                              (try simp (disch := omega) only [put_r6, put_w6, put_r7, put_w7, put_r9, put_w9, put_r10, put_w10, put_r11, put_w11, put_r12, put_w12, put_r13, put_w13, put_r14, put_w14, put_r15, put_w15, put_ra, put_r8, put_r0, put_rt, put_wa, u1, u2, hn8] at w288)
                                              (try simp (disch := omega) only [put_r6, put_w6, put_r7, put_w7, put_r9, put_w9, put_r10, put_w10, put_r11, put_w11, put_r12, put_w12, put_r13, put_w13, put_r14, put_w14, put_r15, put_w15, put_ra, put_r8, put_r0, put_rt, put_wa, u1, u2, hn8])
                                              first
                                               | (exfalso; omega)
                                               | (skip
                                                  refine e_bipush 293 dX12_next_291 (by decide) rfl ?_
                                                  refine e_icmp_ne 296 301 dX12_next_293 (by omega) (by decide) (by decide) rfl (fun b293 => ?_) (fun b293 => ?_)
                                                  · first
                                                     | (exfalso; omega)
                                                     | (skip
                                                        refine e_bipush 303 dX12_next_301 (by decide) rfl ?_
                                                        refine e_puti (j := 9) 306 fl_12_107 dX12_next_303 at_928 rfl rfl rfl (by decide) rfl ?_
                                                        refine e_vret dX12_next_306 ?_
                                                        first
                                                          | (exfalso; omega)
                                                          | (have hB : tBe (M 931) n q = q + 1 := by
                                                               unfold tBe
                                                               rw [if_neg (by omega), if_neg (by omega), if_neg (by omega)]
                                                             have hK : tKd (M 931) n q = 26 := by
                                                               unfold tKd
                                                               rw [if_neg (by omega), if_neg (by omega), if_neg (by omega), if_neg (by omega), if_neg (by omega), if_neg (by omega)]
                                                             have hN : tNu (M 931) n q s.2.2.2.1 = s.2.2.2.1 := by
                                                               unfold tNu
                                                               rw [if_neg (by omega), if_neg (by omega), if_neg (by omega)]
                                                             rw [hK, hN, hB] at h
                                                             simp (disch := omega) only [put_r6, put_w6, put_r7, put_w7, put_r9, put_w9, put_r10, put_w10, put_r11, put_w11, put_r12, put_w12, put_r13, put_w13, put_r14, put_w14, put_r15, put_w15, put_ra, put_r8, put_r0, put_rt, put_wa, u1, u2, hn8]
                                                             exact h))
                                                  · first
                                                     | (exfalso; omega)
                                                     | (skip
                                                        refine e_bipush 298 dX12_next_296 (by decide) rfl ?_
                                                        refine e_goto 303 dX12_next_298 (by decide) ?_
                                                        refine e_puti (j := 9) 306 fl_12_107 dX12_next_303 at_928 rfl rfl rfl (by decide) rfl ?_
                                                        refine e_vret dX12_next_306 ?_
                                                        first
                                                          | (exfalso; omega)
                                                          | (have hB : tBe (M 931) n q = q + 1 := by
                                                               unfold tBe
                                                               rw [if_neg (by omega), if_neg (by omega), if_neg (by omega)]
                                                             have hK : tKd (M 931) n q = 24 := by
                                                               unfold tKd
                                                               rw [if_neg (by omega), if_neg (by omega), if_neg (by omega), if_neg (by omega), if_neg (by omega), if_pos (by omega)]
                                                             have hN : tNu (M 931) n q s.2.2.2.1 = s.2.2.2.1 := by
                                                               unfold tNu
                                                               rw [if_neg (by omega), if_neg (by omega), if_neg (by omega)]
                                                             rw [hK, hN, hB] at h
                                                             simp (disch := omega) only [put_r6, put_w6, put_r7, put_w7, put_r9, put_w9, put_r10, put_w10, put_r11, put_w11, put_r12, put_w12, put_r13, put_w13, put_r14, put_w14, put_r15, put_w15, put_ra, put_r8, put_r0, put_rt, put_wa, u1, u2, hn8]
                                                             exact h)))
                                            · dsimp only [jpush]
                                              (try simp (disch := omega) only [put_r6, put_w6, put_r7, put_w7, put_r9, put_w9, put_r10, put_w10, put_r11, put_w11, put_r12, put_w12, put_r13, put_w13, put_r14, put_w14, put_r15, put_w15, put_ra, put_r8, put_r0, put_rt, put_wa, u1, u2, hn8] at w288)
                                              (try simp (disch := omega) only [put_r6, put_w6, put_r7, put_w7, put_r9, put_w9, put_r10, put_w10, put_r11, put_w11, put_r12, put_w12, put_r13, put_w13, put_r14, put_w14, put_r15, put_w15, put_ra, put_r8, put_r0, put_rt, put_wa, u1, u2, hn8])
                                              first
                                               | (exfalso; omega)
                                               | (skip
                                                  refine e_bipush 293 dX12_next_291 (by decide) rfl ?_
                                                  refine e_icmp_ne 296 301 dX12_next_293 (by decide) (by decide) (by decide) rfl (fun _ => ?_) (fun h => absurd h (by decide))
                                                  refine e_bipush 303 dX12_next_301 (by decide) rfl ?_
                                                  refine e_puti (j := 9) 306 fl_12_107 dX12_next_303 at_928 rfl rfl rfl (by decide) rfl ?_
                                                  refine e_vret dX12_next_306 ?_
                                                  omega)))))))
        · dsimp only [jpush]
          (try simp (disch := omega) only [put_r6, put_w6, put_r7, put_w7, put_r9, put_w9, put_r10, put_w10, put_r11, put_w11, put_r12, put_w12, put_r13, put_w13, put_r14, put_w14, put_r15, put_w15, put_ra, put_r8, put_r0, put_rt, put_wa, u1, u2, hn8] at w80)
          (try simp (disch := omega) only [put_r6, put_w6, put_r7, put_w7, put_r9, put_w9, put_r10, put_w10, put_r11, put_w11, put_r12, put_w12, put_r13, put_w13, put_r14, put_w14, put_r15, put_w15, put_ra, put_r8, put_r0, put_rt, put_wa, u1, u2, hn8])
          first
           | (exfalso; omega)
           | (skip
              refine e_callS 86 mt_yX12_isSmall ms_yX12_isSmall wd_1401 (by decide) dX12_next_83 rfl rfl (Nat.le_of_ble_eq_true rfl) (jroom (by decide)) rfl (m_isSmall (by (try simp (disch := omega) only [put_r6, put_w6, put_r7, put_w7, put_r9, put_w9, put_r10, put_w10, put_r11, put_w11, put_r12, put_w12, put_r13, put_w13, put_r14, put_w14, put_r15, put_w15, put_ra, put_r8, put_r0, put_rt, put_wa, u1, u2, hn8]); omega) (fun w83 => ?_) (fun w83 => ?_))
              · dsimp only [jpush]
                (try simp (disch := omega) only [put_r6, put_w6, put_r7, put_w7, put_r9, put_w9, put_r10, put_w10, put_r11, put_w11, put_r12, put_w12, put_r13, put_w13, put_r14, put_w14, put_r15, put_w15, put_ra, put_r8, put_r0, put_rt, put_wa, u1, u2, hn8] at w83)
                (try simp (disch := omega) only [put_r6, put_w6, put_r7, put_w7, put_r9, put_w9, put_r10, put_w10, put_r11, put_w11, put_r12, put_w12, put_r13, put_w13, put_r14, put_w14, put_r15, put_w15, put_ra, put_r8, put_r0, put_rt, put_wa, u1, u2, hn8])
                first
                 | (exfalso; omega)
                 | (skip
                    refine e_if_eq 89 127 dX12_next_86 (by decide) (by decide) rfl (fun h => absurd h (by decide)) (fun _ => ?_)
                    have hB : tBe (M 931) n q = tSm (M 931) (n - q).toNat q := by
                      unfold tBe
                      rw [if_neg (by omega), if_pos (by omega)]
                    have hr := tSm_rng (t := M 931) (n - q).toNat q
                    refine ln_s hT (n - q).toNat q (by omega) (by omega) ?_
                    rw [← hB] at hr ⊢
                    refine e_aload_n (i := 0) 117 dX12_next_116 rfl rfl rfl ?_
                    refine e_aload_n (i := 0) 118 dX12_next_117 rfl rfl rfl ?_
                    refine e_callV 121 mt_yX12_keyAt mv_yX12_keyAt wd_1404 (by decide) dX12_next_118 at_928 jc_12 rfl rfl rfl (Nat.le_of_ble_eq_true rfl) (jroom (by decide)) rfl (m_keyAt hT (by (try simp (disch := omega) only [put_r6, put_w6, put_r7, put_w7, put_r9, put_w9, put_r10, put_w10, put_r11, put_w11, put_r12, put_w12, put_r13, put_w13, put_r14, put_w14, put_r15, put_w15, put_ra, put_r8, put_r0, put_rt, put_wa, u1, u2, hn8]); omega) (by (try simp (disch := omega) only [put_r6, put_w6, put_r7, put_w7, put_r9, put_w9, put_r10, put_w10, put_r11, put_w11, put_r12, put_w12, put_r13, put_w13, put_r14, put_w14, put_r15, put_w15, put_ra, put_r8, put_r0, put_rt, put_wa, u1, u2, hn8]); omega) ?_)
                    dsimp only [jpush]
                    (try simp (disch := omega) only [put_r6, put_w6, put_r7, put_w7, put_r9, put_w9, put_r10, put_w10, put_r11, put_w11, put_r12, put_w12, put_r13, put_w13, put_r14, put_w14, put_r15, put_w15, put_ra, put_r8, put_r0, put_rt, put_wa, u1, u2, hn8])
                    have hkx := kx0_ge (t := M 931) (p := q) (b := tBe (M 931) n q)
                    refine e_puti (j := 9) 124 fl_12_107 dX12_next_121 at_928 rfl rfl rfl (by omega) rfl ?_
                    refine e_goto 306 dX12_next_124 (by decide) ?_
                    refine e_vret dX12_next_306 ?_
                    have hK : tKd (M 931) n q = kx0 (M 931) q (tBe (M 931) n q) := by
                      unfold tKd
                      rw [if_neg (by omega), if_pos (by omega)]
                    have hN : tNu (M 931) n q s.2.2.2.1 = s.2.2.2.1 := by
                      unfold tNu
                      rw [if_neg (by omega), if_pos (by omega)]
                    rw [hK, hN] at h
                    simp (disch := omega) only [put_r6, put_w6, put_r7, put_w7, put_r9, put_w9, put_r10, put_w10, put_r11, put_w11, put_r12, put_w12, put_r13, put_w13, put_r14, put_w14, put_r15, put_w15, put_ra, put_r8, put_r0, put_rt, put_wa, u1, u2, hn8]
                    exact h)
              · dsimp only [jpush]
                (try simp (disch := omega) only [put_r6, put_w6, put_r7, put_w7, put_r9, put_w9, put_r10, put_w10, put_r11, put_w11, put_r12, put_w12, put_r13, put_w13, put_r14, put_w14, put_r15, put_w15, put_ra, put_r8, put_r0, put_rt, put_wa, u1, u2, hn8] at w83)
                (try simp (disch := omega) only [put_r6, put_w6, put_r7, put_w7, put_r9, put_w9, put_r10, put_w10, put_r11, put_w11, put_r12, put_w12, put_r13, put_w13, put_r14, put_w14, put_r15, put_w15, put_ra, put_r8, put_r0, put_rt, put_wa, u1, u2, hn8])
                first
                 | (exfalso; omega)
                 | (skip
                    refine e_if_eq 89 127 dX12_next_86 (by decide) (by decide) rfl (fun _ => ?_) (fun h => absurd h (by decide))
                    refine e_aload_n (i := 0) 128 dX12_next_127 rfl rfl rfl ?_
                    refine e_aload_n (i := 0) 129 dX12_next_128 rfl rfl rfl ?_
                    refine e_geti (j := 6) 132 fl_12_97 dX12_next_129 at_928 (by decide) rfl rfl (fun r129 => ?_)
                    simp (disch := omega) only [put_r6, put_w6, put_r7, put_w7, put_r9, put_w9, put_r10, put_w10, put_r11, put_w11, put_r12, put_w12, put_r13, put_w13, put_r14, put_w14, put_r15, put_w15, put_ra, put_r8, put_r0, put_rt, put_wa, u1, u2, hn8] at r129 ⊢
                    refine e_callV 135 mt_yX12_see mv_yX12_see wd_1397 (by decide) dX12_next_132 at_928 jc_12 rfl rfl rfl (Nat.le_of_ble_eq_true rfl) (jroom (by decide)) rfl (m_see hT (by (try simp (disch := omega) only [put_r6, put_w6, put_r7, put_w7, put_r9, put_w9, put_r10, put_w10, put_r11, put_w11, put_r12, put_w12, put_r13, put_w13, put_r14, put_w14, put_r15, put_w15, put_ra, put_r8, put_r0, put_rt, put_wa, u1, u2, hn8]); omega) (fun w132 => ?_) (fun w132 => ?_))
                    · dsimp only [jpush]
                      (try simp (disch := omega) only [put_r6, put_w6, put_r7, put_w7, put_r9, put_w9, put_r10, put_w10, put_r11, put_w11, put_r12, put_w12, put_r13, put_w13, put_r14, put_w14, put_r15, put_w15, put_ra, put_r8, put_r0, put_rt, put_wa, u1, u2, hn8] at w132)
                      (try simp (disch := omega) only [put_r6, put_w6, put_r7, put_w7, put_r9, put_w9, put_r10, put_w10, put_r11, put_w11, put_r12, put_w12, put_r13, put_w13, put_r14, put_w14, put_r15, put_w15, put_ra, put_r8, put_r0, put_rt, put_wa, u1, u2, hn8])
                      first
                       | (exfalso; omega)
                       | (skip
                          refine e_callS 138 mt_yX12_isDigit ms_yX12_isDigit wd_1411 (by decide) dX12_next_135 rfl rfl (Nat.le_of_ble_eq_true rfl) (jroom (by decide)) rfl (m_isDigit (by (try simp (disch := omega) only [put_r6, put_w6, put_r7, put_w7, put_r9, put_w9, put_r10, put_w10, put_r11, put_w11, put_r12, put_w12, put_r13, put_w13, put_r14, put_w14, put_r15, put_w15, put_ra, put_r8, put_r0, put_rt, put_wa, u1, u2, hn8]); omega) (fun w135 => ?_) (fun w135 => ?_))
                          · dsimp only [jpush]
                            (try simp (disch := omega) only [put_r6, put_w6, put_r7, put_w7, put_r9, put_w9, put_r10, put_w10, put_r11, put_w11, put_r12, put_w12, put_r13, put_w13, put_r14, put_w14, put_r15, put_w15, put_ra, put_r8, put_r0, put_rt, put_wa, u1, u2, hn8] at w135)
                            (try simp (disch := omega) only [put_r6, put_w6, put_r7, put_w7, put_r9, put_w9, put_r10, put_w10, put_r11, put_w11, put_r12, put_w12, put_r13, put_w13, put_r14, put_w14, put_r15, put_w15, put_ra, put_r8, put_r0, put_rt, put_wa, u1, u2, hn8])
                            first
                             | (exfalso; omega)
                             | (skip
                                refine e_if_eq 141 236 dX12_next_138 (by decide) (by decide) rfl (fun h => absurd h (by decide)) (fun _ => ?_)
                                refine e_aload_n (i := 0) 142 dX12_next_141 rfl rfl rfl ?_
                                refine e_iconst 143 dX12_next_142 rfl ?_
                                refine e_puti (j := 10) 146 fl_12_120 dX12_next_143 at_928 rfl rfl rfl (by decide) rfl ?_
                                have hB : tBe (M 931) n q = tDg (M 931) (n - q).toNat q := by
                                  unfold tBe
                                  rw [if_neg (by omega), if_neg (by omega), if_pos (by omega)]
                                have hr := tDg_rng (t := M 931) (n - q).toNat q
                                simp (disch := omega) only [put_r6, put_w6, put_r7, put_w7, put_r9, put_w9, put_r10, put_w10, put_r11, put_w11, put_r12, put_w12, put_r13, put_w13, put_r14, put_w14, put_r15, put_w15, put_ra, put_r8, put_r0, put_rt, put_wa, u1, u2, hn8]
                                have h00 : tNum (M 931) q (q - q) = 0 := by
                                  rw [tNum, if_pos (by omega)]
                                rw [← h00]
                                refine ln_d hT (by omega) (n - q).toNat q (by omega) (by omega) ?_
                                rw [← hB] at hr ⊢
                                refine e_aload_n (i := 0) 210 dX12_next_209 rfl rfl rfl ?_
                                refine e_aload_n (i := 0) 211 dX12_next_210 rfl rfl rfl ?_
                                refine e_geti (j := 7) 214 fl_12_100 dX12_next_211 at_928 (by decide) rfl rfl (fun r211 => ?_)
                                simp (disch := omega) only [put_r6, put_w6, put_r7, put_w7, put_r9, put_w9, put_r10, put_w10, put_r11, put_w11, put_r12, put_w12, put_r13, put_w13, put_r14, put_w14, put_r15, put_w15, put_ra, put_r8, put_r0, put_rt, put_wa, u1, u2, hn8] at r211 ⊢
                                refine e_aload_n (i := 0) 215 dX12_next_214 rfl rfl rfl ?_
                                refine e_geti (j := 6) 218 fl_12_97 dX12_next_215 at_928 (by decide) rfl rfl (fun r215 => ?_)
                                simp (disch := omega) only [put_r6, put_w6, put_r7, put_w7, put_r9, put_w9, put_r10, put_w10, put_r11, put_w11, put_r12, put_w12, put_r13, put_w13, put_r14, put_w14, put_r15, put_w15, put_ra, put_r8, put_r0, put_rt, put_wa, u1, u2, hn8] at r215 ⊢
                                refine e_isub 219 dX12_next_218 rfl ?_
                                refine e_iconst 220 dX12_next_219 rfl ?_
                                refine e_icmp_le 223 228 dX12_next_220 (by omega) (by decide) (by decide) rfl (fun b220 => ?_) (fun b220 => ?_)
                                · skip
                                  refine e_bipush 230 dX12_next_228 (by decide) rfl ?_
                                  refine e_puti (j := 9) 233 fl_12_107 dX12_next_230 at_928 rfl rfl rfl (by decide) rfl ?_
                                  refine e_goto 306 dX12_next_233 (by decide) ?_
                                  refine e_vret dX12_next_306 ?_
                                  first
                                    | (exfalso; omega)
                                    | (have hK : tKd (M 931) n q = 21 := by
                                         unfold tKd
                                         rw [if_neg (by omega), if_neg (by omega), if_pos (by omega), if_neg (by omega)]
                                       have hN : tNu (M 931) n q s.2.2.2.1 = tNum (M 931) q (tBe (M 931) n q - q) := by
                                         unfold tNu
                                         rw [if_neg (by omega), if_neg (by omega), if_pos (by omega)]
                                       rw [hK, hN] at h
                                       simp (disch := omega) only [put_r6, put_w6, put_r7, put_w7, put_r9, put_w9, put_r10, put_w10, put_r11, put_w11, put_r12, put_w12, put_r13, put_w13, put_r14, put_w14, put_r15, put_w15, put_ra, put_r8, put_r0, put_rt, put_wa, u1, u2, hn8]
                                       exact h)
                                · skip
                                  refine e_bipush 225 dX12_next_223 (by decide) rfl ?_
                                  refine e_goto 230 dX12_next_225 (by decide) ?_
                                  refine e_puti (j := 9) 233 fl_12_107 dX12_next_230 at_928 rfl rfl rfl (by decide) rfl ?_
                                  refine e_goto 306 dX12_next_233 (by decide) ?_
                                  refine e_vret dX12_next_306 ?_
                                  first
                                    | (exfalso; omega)
                                    | (have hK : tKd (M 931) n q = 26 := by
                                         unfold tKd
                                         rw [if_neg (by omega), if_neg (by omega), if_pos (by omega), if_pos (by omega)]
                                       have hN : tNu (M 931) n q s.2.2.2.1 = tNum (M 931) q (tBe (M 931) n q - q) := by
                                         unfold tNu
                                         rw [if_neg (by omega), if_neg (by omega), if_pos (by omega)]
                                       rw [hK, hN] at h
                                       simp (disch := omega) only [put_r6, put_w6, put_r7, put_w7, put_r9, put_w9, put_r10, put_w10, put_r11, put_w11, put_r12, put_w12, put_r13, put_w13, put_r14, put_w14, put_r15, put_w15, put_ra, put_r8, put_r0, put_rt, put_wa, u1, u2, hn8]
                                       exact h))
                          · dsimp only [jpush]
                            (try simp (disch := omega) only [put_r6, put_w6, put_r7, put_w7, put_r9, put_w9, put_r10, put_w10, put_r11, put_w11, put_r12, put_w12, put_r13, put_w13, put_r14, put_w14, put_r15, put_w15, put_ra, put_r8, put_r0, put_rt, put_wa, u1, u2, hn8] at w135)
                            (try simp (disch := omega) only [put_r6, put_w6, put_r7, put_w7, put_r9, put_w9, put_r10, put_w10, put_r11, put_w11, put_r12, put_w12, put_r13, put_w13, put_r14, put_w14, put_r15, put_w15, put_ra, put_r8, put_r0, put_rt, put_wa, u1, u2, hn8])
                            first
                             | (exfalso; omega)
                             | (skip
                                refine e_if_eq 141 236 dX12_next_138 (by decide) (by decide) rfl (fun _ => ?_) (fun h => absurd h (by decide))
                                refine e_aload_n (i := 0) 237 dX12_next_236 rfl rfl rfl ?_
                                refine e_dup 238 dX12_next_237 rfl rfl ?_
                                refine e_geti (j := 7) 241 fl_12_100 dX12_next_238 at_928 (by decide) rfl rfl (fun r238 => ?_)
                                simp (disch := omega) only [put_r6, put_w6, put_r7, put_w7, put_r9, put_w9, put_r10, put_w10, put_r11, put_w11, put_r12, put_w12, put_r13, put_w13, put_r14, put_w14, put_r15, put_w15, put_ra, put_r8, put_r0, put_rt, put_wa, u1, u2, hn8] at r238 ⊢
                                refine e_iconst 242 dX12_next_241 rfl ?_
                                refine e_iadd 243 dX12_next_242 rfl ?_
                                refine e_puti (j := 7) 246 fl_12_100 dX12_next_243 at_928 rfl rfl rfl (by omega) rfl ?_
                                refine e_aload_n (i := 0) 247 dX12_next_246 rfl rfl rfl ?_
                                refine e_aload_n (i := 0) 248 dX12_next_247 rfl rfl rfl ?_
                                refine e_aload_n (i := 0) 249 dX12_next_248 rfl rfl rfl ?_
                                refine e_geti (j := 6) 252 fl_12_97 dX12_next_249 at_928 (by decide) rfl rfl (fun r249 => ?_)
                                simp (disch := omega) only [put_r6, put_w6, put_r7, put_w7, put_r9, put_w9, put_r10, put_w10, put_r11, put_w11, put_r12, put_w12, put_r13, put_w13, put_r14, put_w14, put_r15, put_w15, put_ra, put_r8, put_r0, put_rt, put_wa, u1, u2, hn8] at r249 ⊢
                                refine e_callV 255 mt_yX12_see mv_yX12_see wd_1397 (by decide) dX12_next_252 at_928 jc_12 rfl rfl rfl (Nat.le_of_ble_eq_true rfl) (jroom (by decide)) rfl (m_see hT (by (try simp (disch := omega) only [put_r6, put_w6, put_r7, put_w7, put_r9, put_w9, put_r10, put_w10, put_r11, put_w11, put_r12, put_w12, put_r13, put_w13, put_r14, put_w14, put_r15, put_w15, put_ra, put_r8, put_r0, put_rt, put_wa, u1, u2, hn8]); omega) (fun w252 => ?_) (fun w252 => ?_))
                                · dsimp only [jpush]
                                  (try simp (disch := omega) only [put_r6, put_w6, put_r7, put_w7, put_r9, put_w9, put_r10, put_w10, put_r11, put_w11, put_r12, put_w12, put_r13, put_w13, put_r14, put_w14, put_r15, put_w15, put_ra, put_r8, put_r0, put_rt, put_wa, u1, u2, hn8] at w252)
                                  (try simp (disch := omega) only [put_r6, put_w6, put_r7, put_w7, put_r9, put_w9, put_r10, put_w10, put_r11, put_w11, put_r12, put_w12, put_r13, put_w13, put_r14, put_w14, put_r15, put_w15, put_ra, put_r8, put_r0, put_rt, put_wa, u1, u2, hn8])
                                  first
                                   | (exfalso; omega)
                                   | (skip
                                      refine e_bipush 257 dX12_next_255 (by decide) rfl ?_
                                      refine e_icmp_ne 260 265 dX12_next_257 (by omega) (by decide) (by decide) rfl (fun b257 => ?_) (fun b257 => ?_)
                                      · first
                                         | (exfalso; omega)
                                         | (skip
                                            refine e_aload_n (i := 0) 266 dX12_next_265 rfl rfl rfl ?_
                                            refine e_aload_n (i := 0) 267 dX12_next_266 rfl rfl rfl ?_
                                            refine e_geti (j := 6) 270 fl_12_97 dX12_next_267 at_928 (by decide) rfl rfl (fun r267 => ?_)
                                            simp (disch := omega) only [put_r6, put_w6, put_r7, put_w7, put_r9, put_w9, put_r10, put_w10, put_r11, put_w11, put_r12, put_w12, put_r13, put_w13, put_r14, put_w14, put_r15, put_w15, put_ra, put_r8, put_r0, put_rt, put_wa, u1, u2, hn8] at r267 ⊢
                                            refine e_callV 273 mt_yX12_see mv_yX12_see wd_1397 (by decide) dX12_next_270 at_928 jc_12 rfl rfl rfl (Nat.le_of_ble_eq_true rfl) (jroom (by decide)) rfl (m_see hT (by (try simp (disch := omega) only [put_r6, put_w6, put_r7, put_w7, put_r9, put_w9, put_r10, put_w10, put_r11, put_w11, put_r12, put_w12, put_r13, put_w13, put_r14, put_w14, put_r15, put_w15, put_ra, put_r8, put_r0, put_rt, put_wa, u1, u2, hn8]); omega) (fun w270 => ?_) (fun w270 => ?_))
                                            · dsimp only [jpush]
                                              (try simp (disch := omega) only [put_r6, put_w6, put_r7, put_w7, put_r9, put_w9, put_r10, put_w10, put_r11, put_w11, put_r12, put_w12, put_r13, put_w13, put_r14, put_w14, put_r15, put_w15, put_ra, put_r8, put_r0, put_rt, put_wa, u1, u2, hn8] at w270)
                                              (try simp (disch := omega) only [put_r6, put_w6, put_r7, put_w7, put_r9, put_w9, put_r10, put_w10, put_r11, put_w11, put_r12, put_w12, put_r13, put_w13, put_r14, put_w14, put_r15, put_w15, put_ra, put_r8, put_r0, put_rt, put_wa, u1, u2, hn8])
                                              first
                                               | (exfalso; omega)
                                               | (skip
                                                  refine e_bipush 275 dX12_next_273 (by decide) rfl ?_
                                                  refine e_icmp_ne 278 283 dX12_next_275 (by omega) (by decide) (by decide) rfl (fun b275 => ?_) (fun b275 => ?_)
                                                  · first
                                                     | (exfalso; omega)
                                                     | (skip
                                                        refine e_aload_n (i := 0) 284 dX12_next_283 rfl rfl rfl ?_
                                                        refine e_aload_n (i := 0) 285 dX12_next_284 rfl rfl rfl ?_
                                                        refine e_geti (j := 6) 288 fl_12_97 dX12_next_285 at_928 (by decide) rfl rfl (fun r285 => ?_)
                                                        simp (disch := omega) only [put_r6, put_w6, put_r7, put_w7, put_r9, put_w9, put_r10, put_w10, put_r11, put_w11, put_r12, put_w12, put_r13, put_w13, put_r14, put_w14, put_r15, put_w15, put_ra, put_r8, put_r0, put_rt, put_wa, u1, u2, hn8] at r285 ⊢
                                                        refine e_callV 291 mt_yX12_see mv_yX12_see wd_1397 (by decide) dX12_next_288 at_928 jc_12 rfl rfl rfl (Nat.le_of_ble_eq_true rfl) (jroom (by decide)) rfl (m_see hT (by (try simp (disch := omega) only [put_r6, put_w6, put_r7, put_w7, put_r9, put_w9, put_r10, put_w10, put_r11, put_w11, put_r12, put_w12, put_r13, put_w13, put_r14, put_w14, put_r15, put_w15, put_ra, put_r8, put_r0, put_rt, put_wa, u1, u2, hn8]); omega) (fun w288 => ?_) (fun w288 => ?_))
                                                        · dsimp only [jpush]
                                                          (try simp (disch := omega) only [put_r6, put_w6, put_r7, put_w7, put_r9, put_w9, put_r10, put_w10, put_r11, put_w11, put_r12, put_w12, put_r13, put_w13, put_r14, put_w14, put_r15, put_w15, put_ra, put_r8, put_r0, put_rt, put_wa, u1, u2, hn8] at w288)
                                                          (try simp (disch := omega) only [put_r6, put_w6, put_r7, put_w7, put_r9, put_w9, put_r10, put_w10, put_r11, put_w11, put_r12, put_w12, put_r13, put_w13, put_r14, put_w14, put_r15, put_w15, put_ra, put_r8, put_r0, put_rt, put_wa, u1, u2, hn8])
                                                          first
                                                           | (exfalso; omega)
                                                           | (skip
                                                              refine e_bipush 293 dX12_next_291 (by decide) rfl ?_
                                                              refine e_icmp_ne 296 301 dX12_next_293 (by omega) (by decide) (by decide) rfl (fun b293 => ?_) (fun b293 => ?_)
                                                              · first
                                                                 | (exfalso; omega)
                                                                 | (skip
                                                                    refine e_bipush 303 dX12_next_301 (by decide) rfl ?_
                                                                    refine e_puti (j := 9) 306 fl_12_107 dX12_next_303 at_928 rfl rfl rfl (by decide) rfl ?_
                                                                    refine e_vret dX12_next_306 ?_
                                                                    first
                                                                      | (exfalso; omega)
                                                                      | (have hB : tBe (M 931) n q = q + 1 := by
                                                                           unfold tBe
                                                                           rw [if_neg (by omega), if_neg (by omega), if_neg (by omega)]
                                                                         have hK : tKd (M 931) n q = 26 := by
                                                                           unfold tKd
                                                                           rw [if_neg (by omega), if_neg (by omega), if_neg (by omega), if_neg (by omega), if_neg (by omega), if_neg (by omega)]
                                                                         have hN : tNu (M 931) n q s.2.2.2.1 = s.2.2.2.1 := by
                                                                           unfold tNu
                                                                           rw [if_neg (by omega), if_neg (by omega), if_neg (by omega)]
                                                                         rw [hK, hN, hB] at h
                                                                         simp (disch := omega) only [put_r6, put_w6, put_r7, put_w7, put_r9, put_w9, put_r10, put_w10, put_r11, put_w11, put_r12, put_w12, put_r13, put_w13, put_r14, put_w14, put_r15, put_w15, put_ra, put_r8, put_r0, put_rt, put_wa, u1, u2, hn8]
                                                                         exact h))
                                                              · first
                                                                 | (exfalso; omega)
                                                                 | (skip
                                                                    refine e_bipush 298 dX12_next_296 (by decide) rfl ?_
                                                                    refine e_goto 303 dX12_next_298 (by decide) ?_
                                                                    refine e_puti (j := 9) 306 fl_12_107 dX12_next_303 at_928 rfl rfl rfl (by decide) rfl ?_
                                                                    refine e_vret dX12_next_306 ?_
                                                                    first
                                                                      | (exfalso; omega)
                                                                      | (have hB : tBe (M 931) n q = q + 1 := by
                                                                           unfold tBe
                                                                           rw [if_neg (by omega), if_neg (by omega), if_neg (by omega)]
                                                                         have hK : tKd (M 931) n q = 24 := by
                                                                           unfold tKd
                                                                           rw [if_neg (by omega), if_neg (by omega), if_neg (by omega), if_neg (by omega), if_neg (by omega), if_pos (by omega)]
                                                                         have hN : tNu (M 931) n q s.2.2.2.1 = s.2.2.2.1 := by
                                                                           unfold tNu
                                                                           rw [if_neg (by omega), if_neg (by omega), if_neg (by omega)]
                                                                         rw [hK, hN, hB] at h
                                                                         simp (disch := omega) only [put_r6, put_w6, put_r7, put_w7, put_r9, put_w9, put_r10, put_w10, put_r11, put_w11, put_r12, put_w12, put_r13, put_w13, put_r14, put_w14, put_r15, put_w15, put_ra, put_r8, put_r0, put_rt, put_wa, u1, u2, hn8]
                                                                         exact h)))
                                                        · dsimp only [jpush]
                                                          (try simp (disch := omega) only [put_r6, put_w6, put_r7, put_w7, put_r9, put_w9, put_r10, put_w10, put_r11, put_w11, put_r12, put_w12, put_r13, put_w13, put_r14, put_w14, put_r15, put_w15, put_ra, put_r8, put_r0, put_rt, put_wa, u1, u2, hn8] at w288)
                                                          (try simp (disch := omega) only [put_r6, put_w6, put_r7, put_w7, put_r9, put_w9, put_r10, put_w10, put_r11, put_w11, put_r12, put_w12, put_r13, put_w13, put_r14, put_w14, put_r15, put_w15, put_ra, put_r8, put_r0, put_rt, put_wa, u1, u2, hn8])
                                                          first
                                                           | (exfalso; omega)
                                                           | (skip
                                                              refine e_bipush 293 dX12_next_291 (by decide) rfl ?_
                                                              refine e_icmp_ne 296 301 dX12_next_293 (by decide) (by decide) (by decide) rfl (fun _ => ?_) (fun h => absurd h (by decide))
                                                              refine e_bipush 303 dX12_next_301 (by decide) rfl ?_
                                                              refine e_puti (j := 9) 306 fl_12_107 dX12_next_303 at_928 rfl rfl rfl (by decide) rfl ?_
                                                              refine e_vret dX12_next_306 ?_
                                                              omega))
                                                  · first
                                                     | (exfalso; omega)
                                                     | (skip
                                                        refine e_bipush 280 dX12_next_278 (by decide) rfl ?_
                                                        refine e_goto 303 dX12_next_280 (by decide) ?_
                                                        refine e_puti (j := 9) 306 fl_12_107 dX12_next_303 at_928 rfl rfl rfl (by decide) rfl ?_
                                                        refine e_vret dX12_next_306 ?_
                                                        first
                                                          | (exfalso; omega)
                                                          | (have hB : tBe (M 931) n q = q + 1 := by
                                                               unfold tBe
                                                               rw [if_neg (by omega), if_neg (by omega), if_neg (by omega)]
                                                             have hK : tKd (M 931) n q = 23 := by
                                                               unfold tKd
                                                               rw [if_neg (by omega), if_neg (by omega), if_neg (by omega), if_neg (by omega), if_pos (by omega)]
                                                             have hN : tNu (M 931) n q s.2.2.2.1 = s.2.2.2.1 := by
                                                               unfold tNu
                                                               rw [if_neg (by omega), if_neg (by omega), if_neg (by omega)]
                                                             rw [hK, hN, hB] at h
                                                             simp (disch := omega) only [put_r6, put_w6, put_r7, put_w7, put_r9, put_w9, put_r10, put_w10, put_r11, put_w11, put_r12, put_w12, put_r13, put_w13, put_r14, put_w14, put_r15, put_w15, put_ra, put_r8, put_r0, put_rt, put_wa, u1, u2, hn8]
                                                             exact h)))
                                            · dsimp only [jpush]
                                              (try simp (disch := omega) only [put_r6, put_w6, put_r7, put_w7, put_r9, put_w9, put_r10, put_w10, put_r11, put_w11, put_r12, put_w12, put_r13, put_w13, put_r14, put_w14, put_r15, put_w15, put_ra, put_r8, put_r0, put_rt, put_wa, u1, u2, hn8] at w270)
                                              (try simp (disch := omega) only [put_r6, put_w6, put_r7, put_w7, put_r9, put_w9, put_r10, put_w10, put_r11, put_w11, put_r12, put_w12, put_r13, put_w13, put_r14, put_w14, put_r15, put_w15, put_ra, put_r8, put_r0, put_rt, put_wa, u1, u2, hn8])
                                              first
                                               | (exfalso; omega)
                                               | (skip
                                                  refine e_bipush 275 dX12_next_273 (by decide) rfl ?_
                                                  refine e_icmp_ne 278 283 dX12_next_275 (by decide) (by decide) (by decide) rfl (fun _ => ?_) (fun h => absurd h (by decide))
                                                  refine e_aload_n (i := 0) 284 dX12_next_283 rfl rfl rfl ?_
                                                  refine e_aload_n (i := 0) 285 dX12_next_284 rfl rfl rfl ?_
                                                  refine e_geti (j := 6) 288 fl_12_97 dX12_next_285 at_928 (by decide) rfl rfl (fun r285 => ?_)
                                                  simp (disch := omega) only [put_r6, put_w6, put_r7, put_w7, put_r9, put_w9, put_r10, put_w10, put_r11, put_w11, put_r12, put_w12, put_r13, put_w13, put_r14, put_w14, put_r15, put_w15, put_ra, put_r8, put_r0, put_rt, put_wa, u1, u2, hn8] at r285 ⊢
                                                  refine e_callV 291 mt_yX12_see mv_yX12_see wd_1397 (by decide) dX12_next_288 at_928 jc_12 rfl rfl rfl (Nat.le_of_ble_eq_true rfl) (jroom (by decide)) rfl (m_see hT (by (try simp (disch := omega) only [put_r6, put_w6, put_r7, put_w7, put_r9, put_w9, put_r10, put_w10, put_r11, put_w11, put_r12, put_w12, put_r13, put_w13, put_r14, put_w14, put_r15, put_w15, put_ra, put_r8, put_r0, put_rt, put_wa, u1, u2, hn8]); omega) (fun w288 => ?_) (fun w288 => ?_))
                                                  · dsimp only [jpush]
                                                    (try simp (disch := omega) only [put_r6, put_w6, put_r7, put_w7, put_r9, put_w9, put_r10, put_w10, put_r11, put_w11, put_r12, put_w12, put_r13, put_w13, put_r14, put_w14, put_r15, put_w15, put_ra, put_r8, put_r0, put_rt, put_wa, u1, u2, hn8] at w288)
                                                    (try simp (disch := omega) only [put_r6, put_w6, put_r7, put_w7, put_r9, put_w9, put_r10, put_w10, put_r11, put_w11, put_r12, put_w12, put_r13, put_w13, put_r14, put_w14, put_r15, put_w15, put_ra, put_r8, put_r0, put_rt, put_wa, u1, u2, hn8])
                                                    first
                                                     | (exfalso; omega)
                                                     | (skip
                                                        refine e_bipush 293 dX12_next_291 (by decide) rfl ?_
                                                        refine e_icmp_ne 296 301 dX12_next_293 (by omega) (by decide) (by decide) rfl (fun b293 => ?_) (fun b293 => ?_)
                                                        · first
                                                           | (exfalso; omega)
                                                           | (skip
                                                              refine e_bipush 303 dX12_next_301 (by decide) rfl ?_
                                                              refine e_puti (j := 9) 306 fl_12_107 dX12_next_303 at_928 rfl rfl rfl (by decide) rfl ?_
                                                              refine e_vret dX12_next_306 ?_
                                                              first
                                                                | (exfalso; omega)
                                                                | (have hB : tBe (M 931) n q = q + 1 := by
                                                                     unfold tBe
                                                                     rw [if_neg (by omega), if_neg (by omega), if_neg (by omega)]
                                                                   have hK : tKd (M 931) n q = 26 := by
                                                                     unfold tKd
                                                                     rw [if_neg (by omega), if_neg (by omega), if_neg (by omega), if_neg (by omega), if_neg (by omega), if_neg (by omega)]
                                                                   have hN : tNu (M 931) n q s.2.2.2.1 = s.2.2.2.1 := by
                                                                     unfold tNu
                                                                     rw [if_neg (by omega), if_neg (by omega), if_neg (by omega)]
                                                                   rw [hK, hN, hB] at h
                                                                   simp (disch := omega) only [put_r6, put_w6, put_r7, put_w7, put_r9, put_w9, put_r10, put_w10, put_r11, put_w11, put_r12, put_w12, put_r13, put_w13, put_r14, put_w14, put_r15, put_w15, put_ra, put_r8, put_r0, put_rt, put_wa, u1, u2, hn8]
                                                                   exact h))
                                                        · first
                                                           | (exfalso; omega)
                                                           | (skip
                                                              refine e_bipush 298 dX12_next_296 (by decide) rfl ?_
                                                              refine e_goto 303 dX12_next_298 (by decide) ?_
                                                              refine e_puti (j := 9) 306 fl_12_107 dX12_next_303 at_928 rfl rfl rfl (by decide) rfl ?_
                                                              refine e_vret dX12_next_306 ?_
                                                              first
                                                                | (exfalso; omega)
                                                                | (have hB : tBe (M 931) n q = q + 1 := by
                                                                     unfold tBe
                                                                     rw [if_neg (by omega), if_neg (by omega), if_neg (by omega)]
                                                                   have hK : tKd (M 931) n q = 24 := by
                                                                     unfold tKd
                                                                     rw [if_neg (by omega), if_neg (by omega), if_neg (by omega), if_neg (by omega), if_neg (by omega), if_pos (by omega)]
                                                                   have hN : tNu (M 931) n q s.2.2.2.1 = s.2.2.2.1 := by
                                                                     unfold tNu
                                                                     rw [if_neg (by omega), if_neg (by omega), if_neg (by omega)]
                                                                   rw [hK, hN, hB] at h
                                                                   simp (disch := omega) only [put_r6, put_w6, put_r7, put_w7, put_r9, put_w9, put_r10, put_w10, put_r11, put_w11, put_r12, put_w12, put_r13, put_w13, put_r14, put_w14, put_r15, put_w15, put_ra, put_r8, put_r0, put_rt, put_wa, u1, u2, hn8]
                                                                   exact h)))
                                                  · dsimp only [jpush]
                                                    (try simp (disch := omega) only [put_r6, put_w6, put_r7, put_w7, put_r9, put_w9, put_r10, put_w10, put_r11, put_w11, put_r12, put_w12, put_r13, put_w13, put_r14, put_w14, put_r15, put_w15, put_ra, put_r8, put_r0, put_rt, put_wa, u1, u2, hn8] at w288)
                                                    (try simp (disch := omega) only [put_r6, put_w6, put_r7, put_w7, put_r9, put_w9, put_r10, put_w10, put_r11, put_w11, put_r12, put_w12, put_r13, put_w13, put_r14, put_w14, put_r15, put_w15, put_ra, put_r8, put_r0, put_rt, put_wa, u1, u2, hn8])
                                                    first
                                                     | (exfalso; omega)
                                                     | (skip
                                                        refine e_bipush 293 dX12_next_291 (by decide) rfl ?_
                                                        refine e_icmp_ne 296 301 dX12_next_293 (by decide) (by decide) (by decide) rfl (fun _ => ?_) (fun h => absurd h (by decide))
                                                        refine e_bipush 303 dX12_next_301 (by decide) rfl ?_
                                                        refine e_puti (j := 9) 306 fl_12_107 dX12_next_303 at_928 rfl rfl rfl (by decide) rfl ?_
                                                        refine e_vret dX12_next_306 ?_
                                                        omega)))
                                      · first
                                         | (exfalso; omega)
                                         | (skip
                                            refine e_bipush 262 dX12_next_260 (by decide) rfl ?_
                                            refine e_goto 303 dX12_next_262 (by decide) ?_
                                            refine e_puti (j := 9) 306 fl_12_107 dX12_next_303 at_928 rfl rfl rfl (by decide) rfl ?_
                                            refine e_vret dX12_next_306 ?_
                                            first
                                              | (exfalso; omega)
                                              | (have hB : tBe (M 931) n q = q + 1 := by
                                                   unfold tBe
                                                   rw [if_neg (by omega), if_neg (by omega), if_neg (by omega)]
                                                 have hK : tKd (M 931) n q = 22 := by
                                                   unfold tKd
                                                   rw [if_neg (by omega), if_neg (by omega), if_neg (by omega), if_pos (by omega)]
                                                 have hN : tNu (M 931) n q s.2.2.2.1 = s.2.2.2.1 := by
                                                   unfold tNu
                                                   rw [if_neg (by omega), if_neg (by omega), if_neg (by omega)]
                                                 rw [hK, hN, hB] at h
                                                 simp (disch := omega) only [put_r6, put_w6, put_r7, put_w7, put_r9, put_w9, put_r10, put_w10, put_r11, put_w11, put_r12, put_w12, put_r13, put_w13, put_r14, put_w14, put_r15, put_w15, put_ra, put_r8, put_r0, put_rt, put_wa, u1, u2, hn8]
                                                 exact h)))
                                · dsimp only [jpush]
                                  (try simp (disch := omega) only [put_r6, put_w6, put_r7, put_w7, put_r9, put_w9, put_r10, put_w10, put_r11, put_w11, put_r12, put_w12, put_r13, put_w13, put_r14, put_w14, put_r15, put_w15, put_ra, put_r8, put_r0, put_rt, put_wa, u1, u2, hn8] at w252)
                                  (try simp (disch := omega) only [put_r6, put_w6, put_r7, put_w7, put_r9, put_w9, put_r10, put_w10, put_r11, put_w11, put_r12, put_w12, put_r13, put_w13, put_r14, put_w14, put_r15, put_w15, put_ra, put_r8, put_r0, put_rt, put_wa, u1, u2, hn8])
                                  first
                                   | (exfalso; omega)
                                   | (skip
                                      refine e_bipush 257 dX12_next_255 (by decide) rfl ?_
                                      refine e_icmp_ne 260 265 dX12_next_257 (by decide) (by decide) (by decide) rfl (fun _ => ?_) (fun h => absurd h (by decide))
                                      refine e_aload_n (i := 0) 266 dX12_next_265 rfl rfl rfl ?_
                                      refine e_aload_n (i := 0) 267 dX12_next_266 rfl rfl rfl ?_
                                      refine e_geti (j := 6) 270 fl_12_97 dX12_next_267 at_928 (by decide) rfl rfl (fun r267 => ?_)
                                      simp (disch := omega) only [put_r6, put_w6, put_r7, put_w7, put_r9, put_w9, put_r10, put_w10, put_r11, put_w11, put_r12, put_w12, put_r13, put_w13, put_r14, put_w14, put_r15, put_w15, put_ra, put_r8, put_r0, put_rt, put_wa, u1, u2, hn8] at r267 ⊢
                                      refine e_callV 273 mt_yX12_see mv_yX12_see wd_1397 (by decide) dX12_next_270 at_928 jc_12 rfl rfl rfl (Nat.le_of_ble_eq_true rfl) (jroom (by decide)) rfl (m_see hT (by (try simp (disch := omega) only [put_r6, put_w6, put_r7, put_w7, put_r9, put_w9, put_r10, put_w10, put_r11, put_w11, put_r12, put_w12, put_r13, put_w13, put_r14, put_w14, put_r15, put_w15, put_ra, put_r8, put_r0, put_rt, put_wa, u1, u2, hn8]); omega) (fun w270 => ?_) (fun w270 => ?_))
                                      · dsimp only [jpush]
                                        (try simp (disch := omega) only [put_r6, put_w6, put_r7, put_w7, put_r9, put_w9, put_r10, put_w10, put_r11, put_w11, put_r12, put_w12, put_r13, put_w13, put_r14, put_w14, put_r15, put_w15, put_ra, put_r8, put_r0, put_rt, put_wa, u1, u2, hn8] at w270)
                                        (try simp (disch := omega) only [put_r6, put_w6, put_r7, put_w7, put_r9, put_w9, put_r10, put_w10, put_r11, put_w11, put_r12, put_w12, put_r13, put_w13, put_r14, put_w14, put_r15, put_w15, put_ra, put_r8, put_r0, put_rt, put_wa, u1, u2, hn8])
                                        first
                                         | (exfalso; omega)
                                         | (skip
                                            refine e_bipush 275 dX12_next_273 (by decide) rfl ?_
                                            refine e_icmp_ne 278 283 dX12_next_275 (by omega) (by decide) (by decide) rfl (fun b275 => ?_) (fun b275 => ?_)
                                            · first
                                               | (exfalso; omega)
                                               | (skip
                                                  refine e_aload_n (i := 0) 284 dX12_next_283 rfl rfl rfl ?_
                                                  refine e_aload_n (i := 0) 285 dX12_next_284 rfl rfl rfl ?_
                                                  refine e_geti (j := 6) 288 fl_12_97 dX12_next_285 at_928 (by decide) rfl rfl (fun r285 => ?_)
                                                  simp (disch := omega) only [put_r6, put_w6, put_r7, put_w7, put_r9, put_w9, put_r10, put_w10, put_r11, put_w11, put_r12, put_w12, put_r13, put_w13, put_r14, put_w14, put_r15, put_w15, put_ra, put_r8, put_r0, put_rt, put_wa, u1, u2, hn8] at r285 ⊢
                                                  refine e_callV 291 mt_yX12_see mv_yX12_see wd_1397 (by decide) dX12_next_288 at_928 jc_12 rfl rfl rfl (Nat.le_of_ble_eq_true rfl) (jroom (by decide)) rfl (m_see hT (by (try simp (disch := omega) only [put_r6, put_w6, put_r7, put_w7, put_r9, put_w9, put_r10, put_w10, put_r11, put_w11, put_r12, put_w12, put_r13, put_w13, put_r14, put_w14, put_r15, put_w15, put_ra, put_r8, put_r0, put_rt, put_wa, u1, u2, hn8]); omega) (fun w288 => ?_) (fun w288 => ?_))
                                                  · dsimp only [jpush]
                                                    (try simp (disch := omega) only [put_r6, put_w6, put_r7, put_w7, put_r9, put_w9, put_r10, put_w10, put_r11, put_w11, put_r12, put_w12, put_r13, put_w13, put_r14, put_w14, put_r15, put_w15, put_ra, put_r8, put_r0, put_rt, put_wa, u1, u2, hn8] at w288)
                                                    (try simp (disch := omega) only [put_r6, put_w6, put_r7, put_w7, put_r9, put_w9, put_r10, put_w10, put_r11, put_w11, put_r12, put_w12, put_r13, put_w13, put_r14, put_w14, put_r15, put_w15, put_ra, put_r8, put_r0, put_rt, put_wa, u1, u2, hn8])
                                                    first
                                                     | (exfalso; omega)
                                                     | (skip
                                                        refine e_bipush 293 dX12_next_291 (by decide) rfl ?_
                                                        refine e_icmp_ne 296 301 dX12_next_293 (by omega) (by decide) (by decide) rfl (fun b293 => ?_) (fun b293 => ?_)
                                                        · first
                                                           | (exfalso; omega)
                                                           | (skip
                                                              refine e_bipush 303 dX12_next_301 (by decide) rfl ?_
                                                              refine e_puti (j := 9) 306 fl_12_107 dX12_next_303 at_928 rfl rfl rfl (by decide) rfl ?_
                                                              refine e_vret dX12_next_306 ?_
                                                              first
                                                                | (exfalso; omega)
                                                                | (have hB : tBe (M 931) n q = q + 1 := by
                                                                     unfold tBe
                                                                     rw [if_neg (by omega), if_neg (by omega), if_neg (by omega)]
                                                                   have hK : tKd (M 931) n q = 26 := by
                                                                     unfold tKd
                                                                     rw [if_neg (by omega), if_neg (by omega), if_neg (by omega), if_neg (by omega), if_neg (by omega), if_neg (by omega)]
                                                                   have hN : tNu (M 931) n q s.2.2.2.1 = s.2.2.2.1 := by
                                                                     unfold tNu
                                                                     rw [if_neg (by omega), if_neg (by omega), if_neg (by omega)]
                                                                   rw [hK, hN, hB] at h
                                                                   simp (disch := omega) only [put_r6, put_w6, put_r7, put_w7, put_r9, put_w9, put_r10, put_w10, put_r11, put_w11, put_r12, put_w12, put_r13, put_w13, put_r14, put_w14, put_r15, put_w15, put_ra, put_r8, put_r0, put_rt, put_wa, u1, u2, hn8]
                                                                   exact h))
                                                        · first
                                                           | (exfalso; omega)
                                                           | (skip
                                                              refine e_bipush 298 dX12_next_296 (by decide) rfl ?_
                                                              refine e_goto 303 dX12_next_298 (by decide) ?_
                                                              refine e_puti (j := 9) 306 fl_12_107 dX12_next_303 at_928 rfl rfl rfl (by decide) rfl ?_
                                                              refine e_vret dX12_next_306 ?_
                                                              first
                                                                | (exfalso; omega)
                                                                | (have hB : tBe (M 931) n q = q + 1 := by
                                                                     unfold tBe
                                                                     rw [if_neg (by omega), if_neg (by omega), if_neg (by omega)]
                                                                   have hK : tKd (M 931) n q = 24 := by
                                                                     unfold tKd
                                                                     rw [if_neg (by omega), if_neg (by omega), if_neg (by omega), if_neg (by omega), if_neg (by omega), if_pos (by omega)]
                                                                   have hN : tNu (M 931) n q s.2.2.2.1 = s.2.2.2.1 := by
                                                                     unfold tNu
                                                                     rw [if_neg (by omega), if_neg (by omega), if_neg (by omega)]
                                                                   rw [hK, hN, hB] at h
                                                                   simp (disch := omega) only [put_r6, put_w6, put_r7, put_w7, put_r9, put_w9, put_r10, put_w10, put_r11, put_w11, put_r12, put_w12, put_r13, put_w13, put_r14, put_w14, put_r15, put_w15, put_ra, put_r8, put_r0, put_rt, put_wa, u1, u2, hn8]
                                                                   exact h)))
                                                  · dsimp only [jpush]
                                                    (try simp (disch := omega) only [put_r6, put_w6, put_r7, put_w7, put_r9, put_w9, put_r10, put_w10, put_r11, put_w11, put_r12, put_w12, put_r13, put_w13, put_r14, put_w14, put_r15, put_w15, put_ra, put_r8, put_r0, put_rt, put_wa, u1, u2, hn8] at w288)
                                                    (try simp (disch := omega) only [put_r6, put_w6, put_r7, put_w7, put_r9, put_w9, put_r10, put_w10, put_r11, put_w11, put_r12, put_w12, put_r13, put_w13, put_r14, put_w14, put_r15, put_w15, put_ra, put_r8, put_r0, put_rt, put_wa, u1, u2, hn8])
                                                    first
                                                     | (exfalso; omega)
                                                     | (skip
                                                        refine e_bipush 293 dX12_next_291 (by decide) rfl ?_
                                                        refine e_icmp_ne 296 301 dX12_next_293 (by decide) (by decide) (by decide) rfl (fun _ => ?_) (fun h => absurd h (by decide))
                                                        refine e_bipush 303 dX12_next_301 (by decide) rfl ?_
                                                        refine e_puti (j := 9) 306 fl_12_107 dX12_next_303 at_928 rfl rfl rfl (by decide) rfl ?_
                                                        refine e_vret dX12_next_306 ?_
                                                        omega))
                                            · first
                                               | (exfalso; omega)
                                               | (skip
                                                  refine e_bipush 280 dX12_next_278 (by decide) rfl ?_
                                                  refine e_goto 303 dX12_next_280 (by decide) ?_
                                                  refine e_puti (j := 9) 306 fl_12_107 dX12_next_303 at_928 rfl rfl rfl (by decide) rfl ?_
                                                  refine e_vret dX12_next_306 ?_
                                                  first
                                                    | (exfalso; omega)
                                                    | (have hB : tBe (M 931) n q = q + 1 := by
                                                         unfold tBe
                                                         rw [if_neg (by omega), if_neg (by omega), if_neg (by omega)]
                                                       have hK : tKd (M 931) n q = 23 := by
                                                         unfold tKd
                                                         rw [if_neg (by omega), if_neg (by omega), if_neg (by omega), if_neg (by omega), if_pos (by omega)]
                                                       have hN : tNu (M 931) n q s.2.2.2.1 = s.2.2.2.1 := by
                                                         unfold tNu
                                                         rw [if_neg (by omega), if_neg (by omega), if_neg (by omega)]
                                                       rw [hK, hN, hB] at h
                                                       simp (disch := omega) only [put_r6, put_w6, put_r7, put_w7, put_r9, put_w9, put_r10, put_w10, put_r11, put_w11, put_r12, put_w12, put_r13, put_w13, put_r14, put_w14, put_r15, put_w15, put_ra, put_r8, put_r0, put_rt, put_wa, u1, u2, hn8]
                                                       exact h)))
                                      · dsimp only [jpush]
                                        (try simp (disch := omega) only [put_r6, put_w6, put_r7, put_w7, put_r9, put_w9, put_r10, put_w10, put_r11, put_w11, put_r12, put_w12, put_r13, put_w13, put_r14, put_w14, put_r15, put_w15, put_ra, put_r8, put_r0, put_rt, put_wa, u1, u2, hn8] at w270)
                                        (try simp (disch := omega) only [put_r6, put_w6, put_r7, put_w7, put_r9, put_w9, put_r10, put_w10, put_r11, put_w11, put_r12, put_w12, put_r13, put_w13, put_r14, put_w14, put_r15, put_w15, put_ra, put_r8, put_r0, put_rt, put_wa, u1, u2, hn8])
                                        first
                                         | (exfalso; omega)
                                         | (skip
                                            refine e_bipush 275 dX12_next_273 (by decide) rfl ?_
                                            refine e_icmp_ne 278 283 dX12_next_275 (by decide) (by decide) (by decide) rfl (fun _ => ?_) (fun h => absurd h (by decide))
                                            refine e_aload_n (i := 0) 284 dX12_next_283 rfl rfl rfl ?_
                                            refine e_aload_n (i := 0) 285 dX12_next_284 rfl rfl rfl ?_
                                            refine e_geti (j := 6) 288 fl_12_97 dX12_next_285 at_928 (by decide) rfl rfl (fun r285 => ?_)
                                            simp (disch := omega) only [put_r6, put_w6, put_r7, put_w7, put_r9, put_w9, put_r10, put_w10, put_r11, put_w11, put_r12, put_w12, put_r13, put_w13, put_r14, put_w14, put_r15, put_w15, put_ra, put_r8, put_r0, put_rt, put_wa, u1, u2, hn8] at r285 ⊢
                                            refine e_callV 291 mt_yX12_see mv_yX12_see wd_1397 (by decide) dX12_next_288 at_928 jc_12 rfl rfl rfl (Nat.le_of_ble_eq_true rfl) (jroom (by decide)) rfl (m_see hT (by (try simp (disch := omega) only [put_r6, put_w6, put_r7, put_w7, put_r9, put_w9, put_r10, put_w10, put_r11, put_w11, put_r12, put_w12, put_r13, put_w13, put_r14, put_w14, put_r15, put_w15, put_ra, put_r8, put_r0, put_rt, put_wa, u1, u2, hn8]); omega) (fun w288 => ?_) (fun w288 => ?_))
                                            · dsimp only [jpush]
                                              (try simp (disch := omega) only [put_r6, put_w6, put_r7, put_w7, put_r9, put_w9, put_r10, put_w10, put_r11, put_w11, put_r12, put_w12, put_r13, put_w13, put_r14, put_w14, put_r15, put_w15, put_ra, put_r8, put_r0, put_rt, put_wa, u1, u2, hn8] at w288)
                                              (try simp (disch := omega) only [put_r6, put_w6, put_r7, put_w7, put_r9, put_w9, put_r10, put_w10, put_r11, put_w11, put_r12, put_w12, put_r13, put_w13, put_r14, put_w14, put_r15, put_w15, put_ra, put_r8, put_r0, put_rt, put_wa, u1, u2, hn8])
                                              first
                                               | (exfalso; omega)
                                               | (skip
                                                  refine e_bipush 293 dX12_next_291 (by decide) rfl ?_
                                                  refine e_icmp_ne 296 301 dX12_next_293 (by omega) (by decide) (by decide) rfl (fun b293 => ?_) (fun b293 => ?_)
                                                  · first
                                                     | (exfalso; omega)
                                                     | (skip
                                                        refine e_bipush 303 dX12_next_301 (by decide) rfl ?_
                                                        refine e_puti (j := 9) 306 fl_12_107 dX12_next_303 at_928 rfl rfl rfl (by decide) rfl ?_
                                                        refine e_vret dX12_next_306 ?_
                                                        first
                                                          | (exfalso; omega)
                                                          | (have hB : tBe (M 931) n q = q + 1 := by
                                                               unfold tBe
                                                               rw [if_neg (by omega), if_neg (by omega), if_neg (by omega)]
                                                             have hK : tKd (M 931) n q = 26 := by
                                                               unfold tKd
                                                               rw [if_neg (by omega), if_neg (by omega), if_neg (by omega), if_neg (by omega), if_neg (by omega), if_neg (by omega)]
                                                             have hN : tNu (M 931) n q s.2.2.2.1 = s.2.2.2.1 := by
                                                               unfold tNu
                                                               rw [if_neg (by omega), if_neg (by omega), if_neg (by omega)]
                                                             rw [hK, hN, hB] at h
                                                             simp (disch := omega) only [put_r6, put_w6, put_r7, put_w7, put_r9, put_w9, put_r10, put_w10, put_r11, put_w11, put_r12, put_w12, put_r13, put_w13, put_r14, put_w14, put_r15, put_w15, put_ra, put_r8, put_r0, put_rt, put_wa, u1, u2, hn8]
                                                             exact h))
                                                  · first
                                                     | (exfalso; omega)
                                                     | (skip
                                                        refine e_bipush 298 dX12_next_296 (by decide) rfl ?_
                                                        refine e_goto 303 dX12_next_298 (by decide) ?_
                                                        refine e_puti (j := 9) 306 fl_12_107 dX12_next_303 at_928 rfl rfl rfl (by decide) rfl ?_
                                                        refine e_vret dX12_next_306 ?_
                                                        first
                                                          | (exfalso; omega)
                                                          | (have hB : tBe (M 931) n q = q + 1 := by
                                                               unfold tBe
                                                               rw [if_neg (by omega), if_neg (by omega), if_neg (by omega)]
                                                             have hK : tKd (M 931) n q = 24 := by
                                                               unfold tKd
                                                               rw [if_neg (by omega), if_neg (by omega), if_neg (by omega), if_neg (by omega), if_neg (by omega), if_pos (by omega)]
                                                             have hN : tNu (M 931) n q s.2.2.2.1 = s.2.2.2.1 := by
                                                               unfold tNu
                                                               rw [if_neg (by omega), if_neg (by omega), if_neg (by omega)]
                                                             rw [hK, hN, hB] at h
                                                             simp (disch := omega) only [put_r6, put_w6, put_r7, put_w7, put_r9, put_w9, put_r10, put_w10, put_r11, put_w11, put_r12, put_w12, put_r13, put_w13, put_r14, put_w14, put_r15, put_w15, put_ra, put_r8, put_r0, put_rt, put_wa, u1, u2, hn8]
                                                             exact h)))
                                            · dsimp only [jpush]
                                              (try simp (disch := omega) only [put_r6, put_w6, put_r7, put_w7, put_r9, put_w9, put_r10, put_w10, put_r11, put_w11, put_r12, put_w12, put_r13, put_w13, put_r14, put_w14, put_r15, put_w15, put_ra, put_r8, put_r0, put_rt, put_wa, u1, u2, hn8] at w288)
                                              (try simp (disch := omega) only [put_r6, put_w6, put_r7, put_w7, put_r9, put_w9, put_r10, put_w10, put_r11, put_w11, put_r12, put_w12, put_r13, put_w13, put_r14, put_w14, put_r15, put_w15, put_ra, put_r8, put_r0, put_rt, put_wa, u1, u2, hn8])
                                              first
                                               | (exfalso; omega)
                                               | (skip
                                                  refine e_bipush 293 dX12_next_291 (by decide) rfl ?_
                                                  refine e_icmp_ne 296 301 dX12_next_293 (by decide) (by decide) (by decide) rfl (fun _ => ?_) (fun h => absurd h (by decide))
                                                  refine e_bipush 303 dX12_next_301 (by decide) rfl ?_
                                                  refine e_puti (j := 9) 306 fl_12_107 dX12_next_303 at_928 rfl rfl rfl (by decide) rfl ?_
                                                  refine e_vret dX12_next_306 ?_
                                                  omega)))))
                    · dsimp only [jpush]
                      (try simp (disch := omega) only [put_r6, put_w6, put_r7, put_w7, put_r9, put_w9, put_r10, put_w10, put_r11, put_w11, put_r12, put_w12, put_r13, put_w13, put_r14, put_w14, put_r15, put_w15, put_ra, put_r8, put_r0, put_rt, put_wa, u1, u2, hn8] at w132)
                      (try simp (disch := omega) only [put_r6, put_w6, put_r7, put_w7, put_r9, put_w9, put_r10, put_w10, put_r11, put_w11, put_r12, put_w12, put_r13, put_w13, put_r14, put_w14, put_r15, put_w15, put_ra, put_r8, put_r0, put_rt, put_wa, u1, u2, hn8])
                      first
                       | (exfalso; omega)
                       | (skip
                          refine e_callS 138 mt_yX12_isDigit ms_yX12_isDigit wd_1411 (by decide) dX12_next_135 rfl rfl (Nat.le_of_ble_eq_true rfl) (jroom (by decide)) rfl (m_isDigit (by (try simp (disch := omega) only [put_r6, put_w6, put_r7, put_w7, put_r9, put_w9, put_r10, put_w10, put_r11, put_w11, put_r12, put_w12, put_r13, put_w13, put_r14, put_w14, put_r15, put_w15, put_ra, put_r8, put_r0, put_rt, put_wa, u1, u2, hn8]); omega) (fun w135 => ?_) (fun w135 => ?_))
                          · dsimp only [jpush]
                            (try simp (disch := omega) only [put_r6, put_w6, put_r7, put_w7, put_r9, put_w9, put_r10, put_w10, put_r11, put_w11, put_r12, put_w12, put_r13, put_w13, put_r14, put_w14, put_r15, put_w15, put_ra, put_r8, put_r0, put_rt, put_wa, u1, u2, hn8] at w135)
                            (try simp (disch := omega) only [put_r6, put_w6, put_r7, put_w7, put_r9, put_w9, put_r10, put_w10, put_r11, put_w11, put_r12, put_w12, put_r13, put_w13, put_r14, put_w14, put_r15, put_w15, put_ra, put_r8, put_r0, put_rt, put_wa, u1, u2, hn8])
                            first
                             | (exfalso; omega)
                             | (skip
                                refine e_if_eq 141 236 dX12_next_138 (by decide) (by decide) rfl (fun h => absurd h (by decide)) (fun _ => ?_)
                                refine e_aload_n (i := 0) 142 dX12_next_141 rfl rfl rfl ?_
                                refine e_iconst 143 dX12_next_142 rfl ?_
                                refine e_puti (j := 10) 146 fl_12_120 dX12_next_143 at_928 rfl rfl rfl (by decide) rfl ?_
                                have hB : tBe (M 931) n q = tDg (M 931) (n - q).toNat q := by
                                  unfold tBe
                                  rw [if_neg (by omega), if_neg (by omega), if_pos (by omega)]
                                have hr := tDg_rng (t := M 931) (n - q).toNat q
                                simp (disch := omega) only [put_r6, put_w6, put_r7, put_w7, put_r9, put_w9, put_r10, put_w10, put_r11, put_w11, put_r12, put_w12, put_r13, put_w13, put_r14, put_w14, put_r15, put_w15, put_ra, put_r8, put_r0, put_rt, put_wa, u1, u2, hn8]
                                have h00 : tNum (M 931) q (q - q) = 0 := by
                                  rw [tNum, if_pos (by omega)]
                                rw [← h00]
                                refine ln_d hT (by omega) (n - q).toNat q (by omega) (by omega) ?_
                                rw [← hB] at hr ⊢
                                refine e_aload_n (i := 0) 210 dX12_next_209 rfl rfl rfl ?_
                                refine e_aload_n (i := 0) 211 dX12_next_210 rfl rfl rfl ?_
                                refine e_geti (j := 7) 214 fl_12_100 dX12_next_211 at_928 (by decide) rfl rfl (fun r211 => ?_)
                                simp (disch := omega) only [put_r6, put_w6, put_r7, put_w7, put_r9, put_w9, put_r10, put_w10, put_r11, put_w11, put_r12, put_w12, put_r13, put_w13, put_r14, put_w14, put_r15, put_w15, put_ra, put_r8, put_r0, put_rt, put_wa, u1, u2, hn8] at r211 ⊢
                                refine e_aload_n (i := 0) 215 dX12_next_214 rfl rfl rfl ?_
                                refine e_geti (j := 6) 218 fl_12_97 dX12_next_215 at_928 (by decide) rfl rfl (fun r215 => ?_)
                                simp (disch := omega) only [put_r6, put_w6, put_r7, put_w7, put_r9, put_w9, put_r10, put_w10, put_r11, put_w11, put_r12, put_w12, put_r13, put_w13, put_r14, put_w14, put_r15, put_w15, put_ra, put_r8, put_r0, put_rt, put_wa, u1, u2, hn8] at r215 ⊢
                                refine e_isub 219 dX12_next_218 rfl ?_
                                refine e_iconst 220 dX12_next_219 rfl ?_
                                refine e_icmp_le 223 228 dX12_next_220 (by omega) (by decide) (by decide) rfl (fun b220 => ?_) (fun b220 => ?_)
                                · skip
                                  refine e_bipush 230 dX12_next_228 (by decide) rfl ?_
                                  refine e_puti (j := 9) 233 fl_12_107 dX12_next_230 at_928 rfl rfl rfl (by decide) rfl ?_
                                  refine e_goto 306 dX12_next_233 (by decide) ?_
                                  refine e_vret dX12_next_306 ?_
                                  first
                                    | (exfalso; omega)
                                    | (have hK : tKd (M 931) n q = 21 := by
                                         unfold tKd
                                         rw [if_neg (by omega), if_neg (by omega), if_pos (by omega), if_neg (by omega)]
                                       have hN : tNu (M 931) n q s.2.2.2.1 = tNum (M 931) q (tBe (M 931) n q - q) := by
                                         unfold tNu
                                         rw [if_neg (by omega), if_neg (by omega), if_pos (by omega)]
                                       rw [hK, hN] at h
                                       simp (disch := omega) only [put_r6, put_w6, put_r7, put_w7, put_r9, put_w9, put_r10, put_w10, put_r11, put_w11, put_r12, put_w12, put_r13, put_w13, put_r14, put_w14, put_r15, put_w15, put_ra, put_r8, put_r0, put_rt, put_wa, u1, u2, hn8]
                                       exact h)
                                · skip
                                  refine e_bipush 225 dX12_next_223 (by decide) rfl ?_
                                  refine e_goto 230 dX12_next_225 (by decide) ?_
                                  refine e_puti (j := 9) 233 fl_12_107 dX12_next_230 at_928 rfl rfl rfl (by decide) rfl ?_
                                  refine e_goto 306 dX12_next_233 (by decide) ?_
                                  refine e_vret dX12_next_306 ?_
                                  first
                                    | (exfalso; omega)
                                    | (have hK : tKd (M 931) n q = 26 := by
                                         unfold tKd
                                         rw [if_neg (by omega), if_neg (by omega), if_pos (by omega), if_pos (by omega)]
                                       have hN : tNu (M 931) n q s.2.2.2.1 = tNum (M 931) q (tBe (M 931) n q - q) := by
                                         unfold tNu
                                         rw [if_neg (by omega), if_neg (by omega), if_pos (by omega)]
                                       rw [hK, hN] at h
                                       simp (disch := omega) only [put_r6, put_w6, put_r7, put_w7, put_r9, put_w9, put_r10, put_w10, put_r11, put_w11, put_r12, put_w12, put_r13, put_w13, put_r14, put_w14, put_r15, put_w15, put_ra, put_r8, put_r0, put_rt, put_wa, u1, u2, hn8]
                                       exact h))
                          · dsimp only [jpush]
                            (try simp (disch := omega) only [put_r6, put_w6, put_r7, put_w7, put_r9, put_w9, put_r10, put_w10, put_r11, put_w11, put_r12, put_w12, put_r13, put_w13, put_r14, put_w14, put_r15, put_w15, put_ra, put_r8, put_r0, put_rt, put_wa, u1, u2, hn8] at w135)
                            (try simp (disch := omega) only [put_r6, put_w6, put_r7, put_w7, put_r9, put_w9, put_r10, put_w10, put_r11, put_w11, put_r12, put_w12, put_r13, put_w13, put_r14, put_w14, put_r15, put_w15, put_ra, put_r8, put_r0, put_rt, put_wa, u1, u2, hn8])
                            first
                             | (exfalso; omega)
                             | (skip
                                refine e_if_eq 141 236 dX12_next_138 (by decide) (by decide) rfl (fun _ => ?_) (fun h => absurd h (by decide))
                                refine e_aload_n (i := 0) 237 dX12_next_236 rfl rfl rfl ?_
                                refine e_dup 238 dX12_next_237 rfl rfl ?_
                                refine e_geti (j := 7) 241 fl_12_100 dX12_next_238 at_928 (by decide) rfl rfl (fun r238 => ?_)
                                simp (disch := omega) only [put_r6, put_w6, put_r7, put_w7, put_r9, put_w9, put_r10, put_w10, put_r11, put_w11, put_r12, put_w12, put_r13, put_w13, put_r14, put_w14, put_r15, put_w15, put_ra, put_r8, put_r0, put_rt, put_wa, u1, u2, hn8] at r238 ⊢
                                refine e_iconst 242 dX12_next_241 rfl ?_
                                refine e_iadd 243 dX12_next_242 rfl ?_
                                refine e_puti (j := 7) 246 fl_12_100 dX12_next_243 at_928 rfl rfl rfl (by omega) rfl ?_
                                refine e_aload_n (i := 0) 247 dX12_next_246 rfl rfl rfl ?_
                                refine e_aload_n (i := 0) 248 dX12_next_247 rfl rfl rfl ?_
                                refine e_aload_n (i := 0) 249 dX12_next_248 rfl rfl rfl ?_
                                refine e_geti (j := 6) 252 fl_12_97 dX12_next_249 at_928 (by decide) rfl rfl (fun r249 => ?_)
                                simp (disch := omega) only [put_r6, put_w6, put_r7, put_w7, put_r9, put_w9, put_r10, put_w10, put_r11, put_w11, put_r12, put_w12, put_r13, put_w13, put_r14, put_w14, put_r15, put_w15, put_ra, put_r8, put_r0, put_rt, put_wa, u1, u2, hn8] at r249 ⊢
                                refine e_callV 255 mt_yX12_see mv_yX12_see wd_1397 (by decide) dX12_next_252 at_928 jc_12 rfl rfl rfl (Nat.le_of_ble_eq_true rfl) (jroom (by decide)) rfl (m_see hT (by (try simp (disch := omega) only [put_r6, put_w6, put_r7, put_w7, put_r9, put_w9, put_r10, put_w10, put_r11, put_w11, put_r12, put_w12, put_r13, put_w13, put_r14, put_w14, put_r15, put_w15, put_ra, put_r8, put_r0, put_rt, put_wa, u1, u2, hn8]); omega) (fun w252 => ?_) (fun w252 => ?_))
                                · dsimp only [jpush]
                                  (try simp (disch := omega) only [put_r6, put_w6, put_r7, put_w7, put_r9, put_w9, put_r10, put_w10, put_r11, put_w11, put_r12, put_w12, put_r13, put_w13, put_r14, put_w14, put_r15, put_w15, put_ra, put_r8, put_r0, put_rt, put_wa, u1, u2, hn8] at w252)
                                  (try simp (disch := omega) only [put_r6, put_w6, put_r7, put_w7, put_r9, put_w9, put_r10, put_w10, put_r11, put_w11, put_r12, put_w12, put_r13, put_w13, put_r14, put_w14, put_r15, put_w15, put_ra, put_r8, put_r0, put_rt, put_wa, u1, u2, hn8])
                                  first
                                   | (exfalso; omega)
                                   | (skip
                                      refine e_bipush 257 dX12_next_255 (by decide) rfl ?_
                                      refine e_icmp_ne 260 265 dX12_next_257 (by omega) (by decide) (by decide) rfl (fun b257 => ?_) (fun b257 => ?_)
                                      · first
                                         | (exfalso; omega)
                                         | (skip
                                            refine e_aload_n (i := 0) 266 dX12_next_265 rfl rfl rfl ?_
                                            refine e_aload_n (i := 0) 267 dX12_next_266 rfl rfl rfl ?_
                                            refine e_geti (j := 6) 270 fl_12_97 dX12_next_267 at_928 (by decide) rfl rfl (fun r267 => ?_)
                                            simp (disch := omega) only [put_r6, put_w6, put_r7, put_w7, put_r9, put_w9, put_r10, put_w10, put_r11, put_w11, put_r12, put_w12, put_r13, put_w13, put_r14, put_w14, put_r15, put_w15, put_ra, put_r8, put_r0, put_rt, put_wa, u1, u2, hn8] at r267 ⊢
                                            refine e_callV 273 mt_yX12_see mv_yX12_see wd_1397 (by decide) dX12_next_270 at_928 jc_12 rfl rfl rfl (Nat.le_of_ble_eq_true rfl) (jroom (by decide)) rfl (m_see hT (by (try simp (disch := omega) only [put_r6, put_w6, put_r7, put_w7, put_r9, put_w9, put_r10, put_w10, put_r11, put_w11, put_r12, put_w12, put_r13, put_w13, put_r14, put_w14, put_r15, put_w15, put_ra, put_r8, put_r0, put_rt, put_wa, u1, u2, hn8]); omega) (fun w270 => ?_) (fun w270 => ?_))
                                            · dsimp only [jpush]
                                              (try simp (disch := omega) only [put_r6, put_w6, put_r7, put_w7, put_r9, put_w9, put_r10, put_w10, put_r11, put_w11, put_r12, put_w12, put_r13, put_w13, put_r14, put_w14, put_r15, put_w15, put_ra, put_r8, put_r0, put_rt, put_wa, u1, u2, hn8] at w270)
                                              (try simp (disch := omega) only [put_r6, put_w6, put_r7, put_w7, put_r9, put_w9, put_r10, put_w10, put_r11, put_w11, put_r12, put_w12, put_r13, put_w13, put_r14, put_w14, put_r15, put_w15, put_ra, put_r8, put_r0, put_rt, put_wa, u1, u2, hn8])
                                              first
                                               | (exfalso; omega)
                                               | (skip
                                                  refine e_bipush 275 dX12_next_273 (by decide) rfl ?_
                                                  refine e_icmp_ne 278 283 dX12_next_275 (by omega) (by decide) (by decide) rfl (fun b275 => ?_) (fun b275 => ?_)
                                                  · first
                                                     | (exfalso; omega)
                                                     | (skip
                                                        refine e_aload_n (i := 0) 284 dX12_next_283 rfl rfl rfl ?_
                                                        refine e_aload_n (i := 0) 285 dX12_next_284 rfl rfl rfl ?_
                                                        refine e_geti (j := 6) 288 fl_12_97 dX12_next_285 at_928 (by decide) rfl rfl (fun r285 => ?_)
                                                        simp (disch := omega) only [put_r6, put_w6, put_r7, put_w7, put_r9, put_w9, put_r10, put_w10, put_r11, put_w11, put_r12, put_w12, put_r13, put_w13, put_r14, put_w14, put_r15, put_w15, put_ra, put_r8, put_r0, put_rt, put_wa, u1, u2, hn8] at r285 ⊢
                                                        refine e_callV 291 mt_yX12_see mv_yX12_see wd_1397 (by decide) dX12_next_288 at_928 jc_12 rfl rfl rfl (Nat.le_of_ble_eq_true rfl) (jroom (by decide)) rfl (m_see hT (by (try simp (disch := omega) only [put_r6, put_w6, put_r7, put_w7, put_r9, put_w9, put_r10, put_w10, put_r11, put_w11, put_r12, put_w12, put_r13, put_w13, put_r14, put_w14, put_r15, put_w15, put_ra, put_r8, put_r0, put_rt, put_wa, u1, u2, hn8]); omega) (fun w288 => ?_) (fun w288 => ?_))
                                                        · dsimp only [jpush]
                                                          (try simp (disch := omega) only [put_r6, put_w6, put_r7, put_w7, put_r9, put_w9, put_r10, put_w10, put_r11, put_w11, put_r12, put_w12, put_r13, put_w13, put_r14, put_w14, put_r15, put_w15, put_ra, put_r8, put_r0, put_rt, put_wa, u1, u2, hn8] at w288)
                                                          (try simp (disch := omega) only [put_r6, put_w6, put_r7, put_w7, put_r9, put_w9, put_r10, put_w10, put_r11, put_w11, put_r12, put_w12, put_r13, put_w13, put_r14, put_w14, put_r15, put_w15, put_ra, put_r8, put_r0, put_rt, put_wa, u1, u2, hn8])
                                                          first
                                                           | (exfalso; omega)
                                                           | (skip
                                                              refine e_bipush 293 dX12_next_291 (by decide) rfl ?_
                                                              refine e_icmp_ne 296 301 dX12_next_293 (by omega) (by decide) (by decide) rfl (fun b293 => ?_) (fun b293 => ?_)
                                                              · first
                                                                 | (exfalso; omega)
                                                                 | (skip
                                                                    refine e_bipush 303 dX12_next_301 (by decide) rfl ?_
                                                                    refine e_puti (j := 9) 306 fl_12_107 dX12_next_303 at_928 rfl rfl rfl (by decide) rfl ?_
                                                                    refine e_vret dX12_next_306 ?_
                                                                    first
                                                                      | (exfalso; omega)
                                                                      | (have hB : tBe (M 931) n q = q + 1 := by
                                                                           unfold tBe
                                                                           rw [if_neg (by omega), if_neg (by omega), if_neg (by omega)]
                                                                         have hK : tKd (M 931) n q = 26 := by
                                                                           unfold tKd
                                                                           rw [if_neg (by omega), if_neg (by omega), if_neg (by omega), if_neg (by omega), if_neg (by omega), if_neg (by omega)]
                                                                         have hN : tNu (M 931) n q s.2.2.2.1 = s.2.2.2.1 := by
                                                                           unfold tNu
                                                                           rw [if_neg (by omega), if_neg (by omega), if_neg (by omega)]
                                                                         rw [hK, hN, hB] at h
                                                                         simp (disch := omega) only [put_r6, put_w6, put_r7, put_w7, put_r9, put_w9, put_r10, put_w10, put_r11, put_w11, put_r12, put_w12, put_r13, put_w13, put_r14, put_w14, put_r15, put_w15, put_ra, put_r8, put_r0, put_rt, put_wa, u1, u2, hn8]
                                                                         exact h))
                                                              · first
                                                                 | (exfalso; omega)
                                                                 | (skip
                                                                    refine e_bipush 298 dX12_next_296 (by decide) rfl ?_
                                                                    refine e_goto 303 dX12_next_298 (by decide) ?_
                                                                    refine e_puti (j := 9) 306 fl_12_107 dX12_next_303 at_928 rfl rfl rfl (by decide) rfl ?_
                                                                    refine e_vret dX12_next_306 ?_
                                                                    first
                                                                      | (exfalso; omega)
                                                                      | (have hB : tBe (M 931) n q = q + 1 := by
                                                                           unfold tBe
                                                                           rw [if_neg (by omega), if_neg (by omega), if_neg (by omega)]
                                                                         have hK : tKd (M 931) n q = 24 := by
                                                                           unfold tKd
                                                                           rw [if_neg (by omega), if_neg (by omega), if_neg (by omega), if_neg (by omega), if_neg (by omega), if_pos (by omega)]
                                                                         have hN : tNu (M 931) n q s.2.2.2.1 = s.2.2.2.1 := by
                                                                           unfold tNu
                                                                           rw [if_neg (by omega), if_neg (by omega), if_neg (by omega)]
                                                                         rw [hK, hN, hB] at h
                                                                         simp (disch := omega) only [put_r6, put_w6, put_r7, put_w7, put_r9, put_w9, put_r10, put_w10, put_r11, put_w11, put_r12, put_w12, put_r13, put_w13, put_r14, put_w14, put_r15, put_w15, put_ra, put_r8, put_r0, put_rt, put_wa, u1, u2, hn8]
                                                                         exact h)))
                                                        · dsimp only [jpush]
                                                          (try simp (disch := omega) only [put_r6, put_w6, put_r7, put_w7, put_r9, put_w9, put_r10, put_w10, put_r11, put_w11, put_r12, put_w12, put_r13, put_w13, put_r14, put_w14, put_r15, put_w15, put_ra, put_r8, put_r0, put_rt, put_wa, u1, u2, hn8] at w288)
                                                          (try simp (disch := omega) only [put_r6, put_w6, put_r7, put_w7, put_r9, put_w9, put_r10, put_w10, put_r11, put_w11, put_r12, put_w12, put_r13, put_w13, put_r14, put_w14, put_r15, put_w15, put_ra, put_r8, put_r0, put_rt, put_wa, u1, u2, hn8])
                                                          first
                                                           | (exfalso; omega)
                                                           | (skip
                                                              refine e_bipush 293 dX12_next_291 (by decide) rfl ?_
                                                              refine e_icmp_ne 296 301 dX12_next_293 (by decide) (by decide) (by decide) rfl (fun _ => ?_) (fun h => absurd h (by decide))
                                                              refine e_bipush 303 dX12_next_301 (by decide) rfl ?_
                                                              refine e_puti (j := 9) 306 fl_12_107 dX12_next_303 at_928 rfl rfl rfl (by decide) rfl ?_
                                                              refine e_vret dX12_next_306 ?_
                                                              omega))
                                                  · first
                                                     | (exfalso; omega)
                                                     | (skip
                                                        refine e_bipush 280 dX12_next_278 (by decide) rfl ?_
                                                        refine e_goto 303 dX12_next_280 (by decide) ?_
                                                        refine e_puti (j := 9) 306 fl_12_107 dX12_next_303 at_928 rfl rfl rfl (by decide) rfl ?_
                                                        refine e_vret dX12_next_306 ?_
                                                        first
                                                          | (exfalso; omega)
                                                          | (have hB : tBe (M 931) n q = q + 1 := by
                                                               unfold tBe
                                                               rw [if_neg (by omega), if_neg (by omega), if_neg (by omega)]
                                                             have hK : tKd (M 931) n q = 23 := by
                                                               unfold tKd
                                                               rw [if_neg (by omega), if_neg (by omega), if_neg (by omega), if_neg (by omega), if_pos (by omega)]
                                                             have hN : tNu (M 931) n q s.2.2.2.1 = s.2.2.2.1 := by
                                                               unfold tNu
                                                               rw [if_neg (by omega), if_neg (by omega), if_neg (by omega)]
                                                             rw [hK, hN, hB] at h
                                                             simp (disch := omega) only [put_r6, put_w6, put_r7, put_w7, put_r9, put_w9, put_r10, put_w10, put_r11, put_w11, put_r12, put_w12, put_r13, put_w13, put_r14, put_w14, put_r15, put_w15, put_ra, put_r8, put_r0, put_rt, put_wa, u1, u2, hn8]
                                                             exact h)))
                                            · dsimp only [jpush]
                                              (try simp (disch := omega) only [put_r6, put_w6, put_r7, put_w7, put_r9, put_w9, put_r10, put_w10, put_r11, put_w11, put_r12, put_w12, put_r13, put_w13, put_r14, put_w14, put_r15, put_w15, put_ra, put_r8, put_r0, put_rt, put_wa, u1, u2, hn8] at w270)
                                              (try simp (disch := omega) only [put_r6, put_w6, put_r7, put_w7, put_r9, put_w9, put_r10, put_w10, put_r11, put_w11, put_r12, put_w12, put_r13, put_w13, put_r14, put_w14, put_r15, put_w15, put_ra, put_r8, put_r0, put_rt, put_wa, u1, u2, hn8])
                                              first
                                               | (exfalso; omega)
                                               | (skip
                                                  refine e_bipush 275 dX12_next_273 (by decide) rfl ?_
                                                  refine e_icmp_ne 278 283 dX12_next_275 (by decide) (by decide) (by decide) rfl (fun _ => ?_) (fun h => absurd h (by decide))
                                                  refine e_aload_n (i := 0) 284 dX12_next_283 rfl rfl rfl ?_
                                                  refine e_aload_n (i := 0) 285 dX12_next_284 rfl rfl rfl ?_
                                                  refine e_geti (j := 6) 288 fl_12_97 dX12_next_285 at_928 (by decide) rfl rfl (fun r285 => ?_)
                                                  simp (disch := omega) only [put_r6, put_w6, put_r7, put_w7, put_r9, put_w9, put_r10, put_w10, put_r11, put_w11, put_r12, put_w12, put_r13, put_w13, put_r14, put_w14, put_r15, put_w15, put_ra, put_r8, put_r0, put_rt, put_wa, u1, u2, hn8] at r285 ⊢
                                                  refine e_callV 291 mt_yX12_see mv_yX12_see wd_1397 (by decide) dX12_next_288 at_928 jc_12 rfl rfl rfl (Nat.le_of_ble_eq_true rfl) (jroom (by decide)) rfl (m_see hT (by (try simp (disch := omega) only [put_r6, put_w6, put_r7, put_w7, put_r9, put_w9, put_r10, put_w10, put_r11, put_w11, put_r12, put_w12, put_r13, put_w13, put_r14, put_w14, put_r15, put_w15, put_ra, put_r8, put_r0, put_rt, put_wa, u1, u2, hn8]); omega) (fun w288 => ?_) (fun w288 => ?_))
                                                  · dsimp only [jpush]
                                                    (try simp (disch := omega) only [put_r6, put_w6, put_r7, put_w7, put_r9, put_w9, put_r10, put_w10, put_r11, put_w11, put_r12, put_w12, put_r13, put_w13, put_r14, put_w14, put_r15, put_w15, put_ra, put_r8, put_r0, put_rt, put_wa, u1, u2, hn8] at w288)
                                                    (try simp (disch := omega) only [put_r6, put_w6, put_r7, put_w7, put_r9, put_w9, put_r10, put_w10, put_r11, put_w11, put_r12, put_w12, put_r13, put_w13, put_r14, put_w14, put_r15, put_w15, put_ra, put_r8, put_r0, put_rt, put_wa, u1, u2, hn8])
                                                    first
                                                     | (exfalso; omega)
                                                     | (skip
                                                        refine e_bipush 293 dX12_next_291 (by decide) rfl ?_
                                                        refine e_icmp_ne 296 301 dX12_next_293 (by omega) (by decide) (by decide) rfl (fun b293 => ?_) (fun b293 => ?_)
                                                        · first
                                                           | (exfalso; omega)
                                                           | (skip
                                                              refine e_bipush 303 dX12_next_301 (by decide) rfl ?_
                                                              refine e_puti (j := 9) 306 fl_12_107 dX12_next_303 at_928 rfl rfl rfl (by decide) rfl ?_
                                                              refine e_vret dX12_next_306 ?_
                                                              first
                                                                | (exfalso; omega)
                                                                | (have hB : tBe (M 931) n q = q + 1 := by
                                                                     unfold tBe
                                                                     rw [if_neg (by omega), if_neg (by omega), if_neg (by omega)]
                                                                   have hK : tKd (M 931) n q = 26 := by
                                                                     unfold tKd
                                                                     rw [if_neg (by omega), if_neg (by omega), if_neg (by omega), if_neg (by omega), if_neg (by omega), if_neg (by omega)]
                                                                   have hN : tNu (M 931) n q s.2.2.2.1 = s.2.2.2.1 := by
                                                                     unfold tNu
                                                                     rw [if_neg (by omega), if_neg (by omega), if_neg (by omega)]
                                                                   rw [hK, hN, hB] at h
                                                                   simp (disch := omega) only [put_r6, put_w6, put_r7, put_w7, put_r9, put_w9, put_r10, put_w10, put_r11, put_w11, put_r12, put_w12, put_r13, put_w13, put_r14, put_w14, put_r15, put_w15, put_ra, put_r8, put_r0, put_rt, put_wa, u1, u2, hn8]
                                                                   exact h))
                                                        · first
                                                           | (exfalso; omega)
                                                           | (skip
                                                              refine e_bipush 298 dX12_next_296 (by decide) rfl ?_
                                                              refine e_goto 303 dX12_next_298 (by decide) ?_
                                                              refine e_puti (j := 9) 306 fl_12_107 dX12_next_303 at_928 rfl rfl rfl (by decide) rfl ?_
                                                              refine e_vret dX12_next_306 ?_
                                                              first
                                                                | (exfalso; omega)
                                                                | (have hB : tBe (M 931) n q = q + 1 := by
                                                                     unfold tBe
                                                                     rw [if_neg (by omega), if_neg (by omega), if_neg (by omega)]
                                                                   have hK : tKd (M 931) n q = 24 := by
                                                                     unfold tKd
                                                                     rw [if_neg (by omega), if_neg (by omega), if_neg (by omega), if_neg (by omega), if_neg (by omega), if_pos (by omega)]
                                                                   have hN : tNu (M 931) n q s.2.2.2.1 = s.2.2.2.1 := by
                                                                     unfold tNu
                                                                     rw [if_neg (by omega), if_neg (by omega), if_neg (by omega)]
                                                                   rw [hK, hN, hB] at h
                                                                   simp (disch := omega) only [put_r6, put_w6, put_r7, put_w7, put_r9, put_w9, put_r10, put_w10, put_r11, put_w11, put_r12, put_w12, put_r13, put_w13, put_r14, put_w14, put_r15, put_w15, put_ra, put_r8, put_r0, put_rt, put_wa, u1, u2, hn8]
                                                                   exact h)))
                                                  · dsimp only [jpush]
                                                    (try simp (disch := omega) only [put_r6, put_w6, put_r7, put_w7, put_r9, put_w9, put_r10, put_w10, put_r11, put_w11, put_r12, put_w12, put_r13, put_w13, put_r14, put_w14, put_r15, put_w15, put_ra, put_r8, put_r0, put_rt, put_wa, u1, u2, hn8] at w288)
                                                    (try simp (disch := omega) only [put_r6, put_w6, put_r7, put_w7, put_r9, put_w9, put_r10, put_w10, put_r11, put_w11, put_r12, put_w12, put_r13, put_w13, put_r14, put_w14, put_r15, put_w15, put_ra, put_r8, put_r0, put_rt, put_wa, u1, u2, hn8])
                                                    first
                                                     | (exfalso; omega)
                                                     | (skip
                                                        refine e_bipush 293 dX12_next_291 (by decide) rfl ?_
                                                        refine e_icmp_ne 296 301 dX12_next_293 (by decide) (by decide) (by decide) rfl (fun _ => ?_) (fun h => absurd h (by decide))
                                                        refine e_bipush 303 dX12_next_301 (by decide) rfl ?_
                                                        refine e_puti (j := 9) 306 fl_12_107 dX12_next_303 at_928 rfl rfl rfl (by decide) rfl ?_
                                                        refine e_vret dX12_next_306 ?_
                                                        omega)))
                                      · first
                                         | (exfalso; omega)
                                         | (skip
                                            refine e_bipush 262 dX12_next_260 (by decide) rfl ?_
                                            refine e_goto 303 dX12_next_262 (by decide) ?_
                                            refine e_puti (j := 9) 306 fl_12_107 dX12_next_303 at_928 rfl rfl rfl (by decide) rfl ?_
                                            refine e_vret dX12_next_306 ?_
                                            first
                                              | (exfalso; omega)
                                              | (have hB : tBe (M 931) n q = q + 1 := by
                                                   unfold tBe
                                                   rw [if_neg (by omega), if_neg (by omega), if_neg (by omega)]
                                                 have hK : tKd (M 931) n q = 22 := by
                                                   unfold tKd
                                                   rw [if_neg (by omega), if_neg (by omega), if_neg (by omega), if_pos (by omega)]
                                                 have hN : tNu (M 931) n q s.2.2.2.1 = s.2.2.2.1 := by
                                                   unfold tNu
                                                   rw [if_neg (by omega), if_neg (by omega), if_neg (by omega)]
                                                 rw [hK, hN, hB] at h
                                                 simp (disch := omega) only [put_r6, put_w6, put_r7, put_w7, put_r9, put_w9, put_r10, put_w10, put_r11, put_w11, put_r12, put_w12, put_r13, put_w13, put_r14, put_w14, put_r15, put_w15, put_ra, put_r8, put_r0, put_rt, put_wa, u1, u2, hn8]
                                                 exact h)))
                                · dsimp only [jpush]
                                  (try simp (disch := omega) only [put_r6, put_w6, put_r7, put_w7, put_r9, put_w9, put_r10, put_w10, put_r11, put_w11, put_r12, put_w12, put_r13, put_w13, put_r14, put_w14, put_r15, put_w15, put_ra, put_r8, put_r0, put_rt, put_wa, u1, u2, hn8] at w252)
                                  (try simp (disch := omega) only [put_r6, put_w6, put_r7, put_w7, put_r9, put_w9, put_r10, put_w10, put_r11, put_w11, put_r12, put_w12, put_r13, put_w13, put_r14, put_w14, put_r15, put_w15, put_ra, put_r8, put_r0, put_rt, put_wa, u1, u2, hn8])
                                  first
                                   | (exfalso; omega)
                                   | (skip
                                      refine e_bipush 257 dX12_next_255 (by decide) rfl ?_
                                      refine e_icmp_ne 260 265 dX12_next_257 (by decide) (by decide) (by decide) rfl (fun _ => ?_) (fun h => absurd h (by decide))
                                      refine e_aload_n (i := 0) 266 dX12_next_265 rfl rfl rfl ?_
                                      refine e_aload_n (i := 0) 267 dX12_next_266 rfl rfl rfl ?_
                                      refine e_geti (j := 6) 270 fl_12_97 dX12_next_267 at_928 (by decide) rfl rfl (fun r267 => ?_)
                                      simp (disch := omega) only [put_r6, put_w6, put_r7, put_w7, put_r9, put_w9, put_r10, put_w10, put_r11, put_w11, put_r12, put_w12, put_r13, put_w13, put_r14, put_w14, put_r15, put_w15, put_ra, put_r8, put_r0, put_rt, put_wa, u1, u2, hn8] at r267 ⊢
                                      refine e_callV 273 mt_yX12_see mv_yX12_see wd_1397 (by decide) dX12_next_270 at_928 jc_12 rfl rfl rfl (Nat.le_of_ble_eq_true rfl) (jroom (by decide)) rfl (m_see hT (by (try simp (disch := omega) only [put_r6, put_w6, put_r7, put_w7, put_r9, put_w9, put_r10, put_w10, put_r11, put_w11, put_r12, put_w12, put_r13, put_w13, put_r14, put_w14, put_r15, put_w15, put_ra, put_r8, put_r0, put_rt, put_wa, u1, u2, hn8]); omega) (fun w270 => ?_) (fun w270 => ?_))
                                      · dsimp only [jpush]
                                        (try simp (disch := omega) only [put_r6, put_w6, put_r7, put_w7, put_r9, put_w9, put_r10, put_w10, put_r11, put_w11, put_r12, put_w12, put_r13, put_w13, put_r14, put_w14, put_r15, put_w15, put_ra, put_r8, put_r0, put_rt, put_wa, u1, u2, hn8] at w270)
                                        (try simp (disch := omega) only [put_r6, put_w6, put_r7, put_w7, put_r9, put_w9, put_r10, put_w10, put_r11, put_w11, put_r12, put_w12, put_r13, put_w13, put_r14, put_w14, put_r15, put_w15, put_ra, put_r8, put_r0, put_rt, put_wa, u1, u2, hn8])
                                        first
                                         | (exfalso; omega)
                                         | (skip
                                            refine e_bipush 275 dX12_next_273 (by decide) rfl ?_
                                            refine e_icmp_ne 278 283 dX12_next_275 (by omega) (by decide) (by decide) rfl (fun b275 => ?_) (fun b275 => ?_)
                                            · first
                                               | (exfalso; omega)
                                               | (skip
                                                  refine e_aload_n (i := 0) 284 dX12_next_283 rfl rfl rfl ?_
                                                  refine e_aload_n (i := 0) 285 dX12_next_284 rfl rfl rfl ?_
                                                  refine e_geti (j := 6) 288 fl_12_97 dX12_next_285 at_928 (by decide) rfl rfl (fun r285 => ?_)
                                                  simp (disch := omega) only [put_r6, put_w6, put_r7, put_w7, put_r9, put_w9, put_r10, put_w10, put_r11, put_w11, put_r12, put_w12, put_r13, put_w13, put_r14, put_w14, put_r15, put_w15, put_ra, put_r8, put_r0, put_rt, put_wa, u1, u2, hn8] at r285 ⊢
                                                  refine e_callV 291 mt_yX12_see mv_yX12_see wd_1397 (by decide) dX12_next_288 at_928 jc_12 rfl rfl rfl (Nat.le_of_ble_eq_true rfl) (jroom (by decide)) rfl (m_see hT (by (try simp (disch := omega) only [put_r6, put_w6, put_r7, put_w7, put_r9, put_w9, put_r10, put_w10, put_r11, put_w11, put_r12, put_w12, put_r13, put_w13, put_r14, put_w14, put_r15, put_w15, put_ra, put_r8, put_r0, put_rt, put_wa, u1, u2, hn8]); omega) (fun w288 => ?_) (fun w288 => ?_))
                                                  · dsimp only [jpush]
                                                    (try simp (disch := omega) only [put_r6, put_w6, put_r7, put_w7, put_r9, put_w9, put_r10, put_w10, put_r11, put_w11, put_r12, put_w12, put_r13, put_w13, put_r14, put_w14, put_r15, put_w15, put_ra, put_r8, put_r0, put_rt, put_wa, u1, u2, hn8] at w288)
                                                    (try simp (disch := omega) only [put_r6, put_w6, put_r7, put_w7, put_r9, put_w9, put_r10, put_w10, put_r11, put_w11, put_r12, put_w12, put_r13, put_w13, put_r14, put_w14, put_r15, put_w15, put_ra, put_r8, put_r0, put_rt, put_wa, u1, u2, hn8])
                                                    first
                                                     | (exfalso; omega)
                                                     | (skip
                                                        refine e_bipush 293 dX12_next_291 (by decide) rfl ?_
                                                        refine e_icmp_ne 296 301 dX12_next_293 (by omega) (by decide) (by decide) rfl (fun b293 => ?_) (fun b293 => ?_)
                                                        · first
                                                           | (exfalso; omega)
                                                           | (skip
                                                              refine e_bipush 303 dX12_next_301 (by decide) rfl ?_
                                                              refine e_puti (j := 9) 306 fl_12_107 dX12_next_303 at_928 rfl rfl rfl (by decide) rfl ?_
                                                              refine e_vret dX12_next_306 ?_
                                                              first
                                                                | (exfalso; omega)
                                                                | (have hB : tBe (M 931) n q = q + 1 := by
                                                                     unfold tBe
                                                                     rw [if_neg (by omega), if_neg (by omega), if_neg (by omega)]
                                                                   have hK : tKd (M 931) n q = 26 := by
                                                                     unfold tKd
                                                                     rw [if_neg (by omega), if_neg (by omega), if_neg (by omega), if_neg (by omega), if_neg (by omega), if_neg (by omega)]
                                                                   have hN : tNu (M 931) n q s.2.2.2.1 = s.2.2.2.1 := by
                                                                     unfold tNu
                                                                     rw [if_neg (by omega), if_neg (by omega), if_neg (by omega)]
                                                                   rw [hK, hN, hB] at h
                                                                   simp (disch := omega) only [put_r6, put_w6, put_r7, put_w7, put_r9, put_w9, put_r10, put_w10, put_r11, put_w11, put_r12, put_w12, put_r13, put_w13, put_r14, put_w14, put_r15, put_w15, put_ra, put_r8, put_r0, put_rt, put_wa, u1, u2, hn8]
                                                                   exact h))
                                                        · first
                                                           | (exfalso; omega)
                                                           | (skip
                                                              refine e_bipush 298 dX12_next_296 (by decide) rfl ?_
                                                              refine e_goto 303 dX12_next_298 (by decide) ?_
                                                              refine e_puti (j := 9) 306 fl_12_107 dX12_next_303 at_928 rfl rfl rfl (by decide) rfl ?_
                                                              refine e_vret dX12_next_306 ?_
                                                              first
                                                                | (exfalso; omega)
                                                                | (have hB : tBe (M 931) n q = q + 1 := by
                                                                     unfold tBe
                                                                     rw [if_neg (by omega), if_neg (by omega), if_neg (by omega)]
                                                                   have hK : tKd (M 931) n q = 24 := by
                                                                     unfold tKd
                                                                     rw [if_neg (by omega), if_neg (by omega), if_neg (by omega), if_neg (by omega), if_neg (by omega), if_pos (by omega)]
                                                                   have hN : tNu (M 931) n q s.2.2.2.1 = s.2.2.2.1 := by
                                                                     unfold tNu
                                                                     rw [if_neg (by omega), if_neg (by omega), if_neg (by omega)]
                                                                   rw [hK, hN, hB] at h
                                                                   simp (disch := omega) only [put_r6, put_w6, put_r7, put_w7, put_r9, put_w9, put_r10, put_w10, put_r11, put_w11, put_r12, put_w12, put_r13, put_w13, put_r14, put_w14, put_r15, put_w15, put_ra, put_r8, put_r0, put_rt, put_wa, u1, u2, hn8]
                                                                   exact h)))
                                                  · dsimp only [jpush]
                                                    (try simp (disch := omega) only [put_r6, put_w6, put_r7, put_w7, put_r9, put_w9, put_r10, put_w10, put_r11, put_w11, put_r12, put_w12, put_r13, put_w13, put_r14, put_w14, put_r15, put_w15, put_ra, put_r8, put_r0, put_rt, put_wa, u1, u2, hn8] at w288)
                                                    (try simp (disch := omega) only [put_r6, put_w6, put_r7, put_w7, put_r9, put_w9, put_r10, put_w10, put_r11, put_w11, put_r12, put_w12, put_r13, put_w13, put_r14, put_w14, put_r15, put_w15, put_ra, put_r8, put_r0, put_rt, put_wa, u1, u2, hn8])
                                                    first
                                                     | (exfalso; omega)
                                                     | (skip
                                                        refine e_bipush 293 dX12_next_291 (by decide) rfl ?_
                                                        refine e_icmp_ne 296 301 dX12_next_293 (by decide) (by decide) (by decide) rfl (fun _ => ?_) (fun h => absurd h (by decide))
                                                        refine e_bipush 303 dX12_next_301 (by decide) rfl ?_
                                                        refine e_puti (j := 9) 306 fl_12_107 dX12_next_303 at_928 rfl rfl rfl (by decide) rfl ?_
                                                        refine e_vret dX12_next_306 ?_
                                                        omega))
                                            · first
                                               | (exfalso; omega)
                                               | (skip
                                                  refine e_bipush 280 dX12_next_278 (by decide) rfl ?_
                                                  refine e_goto 303 dX12_next_280 (by decide) ?_
                                                  refine e_puti (j := 9) 306 fl_12_107 dX12_next_303 at_928 rfl rfl rfl (by decide) rfl ?_
                                                  refine e_vret dX12_next_306 ?_
                                                  first
                                                    | (exfalso; omega)
                                                    | (have hB : tBe (M 931) n q = q + 1 := by
                                                         unfold tBe
                                                         rw [if_neg (by omega), if_neg (by omega), if_neg (by omega)]
                                                       have hK : tKd (M 931) n q = 23 := by
                                                         unfold tKd
                                                         rw [if_neg (by omega), if_neg (by omega), if_neg (by omega), if_neg (by omega), if_pos (by omega)]
                                                       have hN : tNu (M 931) n q s.2.2.2.1 = s.2.2.2.1 := by
                                                         unfold tNu
                                                         rw [if_neg (by omega), if_neg (by omega), if_neg (by omega)]
                                                       rw [hK, hN, hB] at h
                                                       simp (disch := omega) only [put_r6, put_w6, put_r7, put_w7, put_r9, put_w9, put_r10, put_w10, put_r11, put_w11, put_r12, put_w12, put_r13, put_w13, put_r14, put_w14, put_r15, put_w15, put_ra, put_r8, put_r0, put_rt, put_wa, u1, u2, hn8]
                                                       exact h)))
                                      · dsimp only [jpush]
                                        (try simp (disch := omega) only [put_r6, put_w6, put_r7, put_w7, put_r9, put_w9, put_r10, put_w10, put_r11, put_w11, put_r12, put_w12, put_r13, put_w13, put_r14, put_w14, put_r15, put_w15, put_ra, put_r8, put_r0, put_rt, put_wa, u1, u2, hn8] at w270)
                                        (try simp (disch := omega) only [put_r6, put_w6, put_r7, put_w7, put_r9, put_w9, put_r10, put_w10, put_r11, put_w11, put_r12, put_w12, put_r13, put_w13, put_r14, put_w14, put_r15, put_w15, put_ra, put_r8, put_r0, put_rt, put_wa, u1, u2, hn8])
                                        first
                                         | (exfalso; omega)
                                         | (skip
                                            refine e_bipush 275 dX12_next_273 (by decide) rfl ?_
                                            refine e_icmp_ne 278 283 dX12_next_275 (by decide) (by decide) (by decide) rfl (fun _ => ?_) (fun h => absurd h (by decide))
                                            refine e_aload_n (i := 0) 284 dX12_next_283 rfl rfl rfl ?_
                                            refine e_aload_n (i := 0) 285 dX12_next_284 rfl rfl rfl ?_
                                            refine e_geti (j := 6) 288 fl_12_97 dX12_next_285 at_928 (by decide) rfl rfl (fun r285 => ?_)
                                            simp (disch := omega) only [put_r6, put_w6, put_r7, put_w7, put_r9, put_w9, put_r10, put_w10, put_r11, put_w11, put_r12, put_w12, put_r13, put_w13, put_r14, put_w14, put_r15, put_w15, put_ra, put_r8, put_r0, put_rt, put_wa, u1, u2, hn8] at r285 ⊢
                                            refine e_callV 291 mt_yX12_see mv_yX12_see wd_1397 (by decide) dX12_next_288 at_928 jc_12 rfl rfl rfl (Nat.le_of_ble_eq_true rfl) (jroom (by decide)) rfl (m_see hT (by (try simp (disch := omega) only [put_r6, put_w6, put_r7, put_w7, put_r9, put_w9, put_r10, put_w10, put_r11, put_w11, put_r12, put_w12, put_r13, put_w13, put_r14, put_w14, put_r15, put_w15, put_ra, put_r8, put_r0, put_rt, put_wa, u1, u2, hn8]); omega) (fun w288 => ?_) (fun w288 => ?_))
                                            · dsimp only [jpush]
                                              (try simp (disch := omega) only [put_r6, put_w6, put_r7, put_w7, put_r9, put_w9, put_r10, put_w10, put_r11, put_w11, put_r12, put_w12, put_r13, put_w13, put_r14, put_w14, put_r15, put_w15, put_ra, put_r8, put_r0, put_rt, put_wa, u1, u2, hn8] at w288)
                                              (try simp (disch := omega) only [put_r6, put_w6, put_r7, put_w7, put_r9, put_w9, put_r10, put_w10, put_r11, put_w11, put_r12, put_w12, put_r13, put_w13, put_r14, put_w14, put_r15, put_w15, put_ra, put_r8, put_r0, put_rt, put_wa, u1, u2, hn8])
                                              first
                                               | (exfalso; omega)
                                               | (skip
                                                  refine e_bipush 293 dX12_next_291 (by decide) rfl ?_
                                                  refine e_icmp_ne 296 301 dX12_next_293 (by omega) (by decide) (by decide) rfl (fun b293 => ?_) (fun b293 => ?_)
                                                  · first
                                                     | (exfalso; omega)
                                                     | (skip
                                                        refine e_bipush 303 dX12_next_301 (by decide) rfl ?_
                                                        refine e_puti (j := 9) 306 fl_12_107 dX12_next_303 at_928 rfl rfl rfl (by decide) rfl ?_
                                                        refine e_vret dX12_next_306 ?_
                                                        first
                                                          | (exfalso; omega)
                                                          | (have hB : tBe (M 931) n q = q + 1 := by
                                                               unfold tBe
                                                               rw [if_neg (by omega), if_neg (by omega), if_neg (by omega)]
                                                             have hK : tKd (M 931) n q = 26 := by
                                                               unfold tKd
                                                               rw [if_neg (by omega), if_neg (by omega), if_neg (by omega), if_neg (by omega), if_neg (by omega), if_neg (by omega)]
                                                             have hN : tNu (M 931) n q s.2.2.2.1 = s.2.2.2.1 := by
                                                               unfold tNu
                                                               rw [if_neg (by omega), if_neg (by omega), if_neg (by omega)]
                                                             rw [hK, hN, hB] at h
                                                             simp (disch := omega) only [put_r6, put_w6, put_r7, put_w7, put_r9, put_w9, put_r10, put_w10, put_r11, put_w11, put_r12, put_w12, put_r13, put_w13, put_r14, put_w14, put_r15, put_w15, put_ra, put_r8, put_r0, put_rt, put_wa, u1, u2, hn8]
                                                             exact h))
                                                  · first
                                                     | (exfalso; omega)
                                                     | (skip
                                                        refine e_bipush 298 dX12_next_296 (by decide) rfl ?_
                                                        refine e_goto 303 dX12_next_298 (by decide) ?_
                                                        refine e_puti (j := 9) 306 fl_12_107 dX12_next_303 at_928 rfl rfl rfl (by decide) rfl ?_
                                                        refine e_vret dX12_next_306 ?_
                                                        first
                                                          | (exfalso; omega)
                                                          | (have hB : tBe (M 931) n q = q + 1 := by
                                                               unfold tBe
                                                               rw [if_neg (by omega), if_neg (by omega), if_neg (by omega)]
                                                             have hK : tKd (M 931) n q = 24 := by
                                                               unfold tKd
                                                               rw [if_neg (by omega), if_neg (by omega), if_neg (by omega), if_neg (by omega), if_neg (by omega), if_pos (by omega)]
                                                             have hN : tNu (M 931) n q s.2.2.2.1 = s.2.2.2.1 := by
                                                               unfold tNu
                                                               rw [if_neg (by omega), if_neg (by omega), if_neg (by omega)]
                                                             rw [hK, hN, hB] at h
                                                             simp (disch := omega) only [put_r6, put_w6, put_r7, put_w7, put_r9, put_w9, put_r10, put_w10, put_r11, put_w11, put_r12, put_w12, put_r13, put_w13, put_r14, put_w14, put_r15, put_w15, put_ra, put_r8, put_r0, put_rt, put_wa, u1, u2, hn8]
                                                             exact h)))
                                            · dsimp only [jpush]
                                              (try simp (disch := omega) only [put_r6, put_w6, put_r7, put_w7, put_r9, put_w9, put_r10, put_w10, put_r11, put_w11, put_r12, put_w12, put_r13, put_w13, put_r14, put_w14, put_r15, put_w15, put_ra, put_r8, put_r0, put_rt, put_wa, u1, u2, hn8] at w288)
                                              (try simp (disch := omega) only [put_r6, put_w6, put_r7, put_w7, put_r9, put_w9, put_r10, put_w10, put_r11, put_w11, put_r12, put_w12, put_r13, put_w13, put_r14, put_w14, put_r15, put_w15, put_ra, put_r8, put_r0, put_rt, put_wa, u1, u2, hn8])
                                              first
                                               | (exfalso; omega)
                                               | (skip
                                                  refine e_bipush 293 dX12_next_291 (by decide) rfl ?_
                                                  refine e_icmp_ne 296 301 dX12_next_293 (by decide) (by decide) (by decide) rfl (fun _ => ?_) (fun h => absurd h (by decide))
                                                  refine e_bipush 303 dX12_next_301 (by decide) rfl ?_
                                                  refine e_puti (j := 9) 306 fl_12_107 dX12_next_303 at_928 rfl rfl rfl (by decide) rfl ?_
                                                  refine e_vret dX12_next_306 ?_
                                                  omega))))))))
  · first
     | (exfalso; omega)
     | (skip
        refine e_aload_n (i := 0) 67 dX12_next_66 rfl rfl rfl ?_
        refine e_bipush 69 dX12_next_67 (by decide) rfl ?_
        refine e_puti (j := 9) 72 fl_12_107 dX12_next_69 at_928 rfl rfl rfl (by decide) rfl ?_
        refine e_goto 306 dX12_next_72 (by decide) ?_
        refine e_vret dX12_next_306 ?_
        first
          | (exfalso; omega)
          | (have hB : tBe (M 931) n q = q := by
               unfold tBe
               rw [if_pos (by omega)]
             have hK : tKd (M 931) n q = 25 := by
               unfold tKd
               rw [if_pos (by omega)]
             have hN : tNu (M 931) n q s.2.2.2.1 = s.2.2.2.1 := by
               unfold tNu
               rw [if_pos (by omega)]
             rw [hK, hN, hB] at h
             simp (disch := omega) only [put_r6, put_w6, put_r7, put_w7, put_r9, put_w9, put_r10, put_w10, put_r11, put_w11, put_r12, put_w12, put_r13, put_w13, put_r14, put_w14, put_r15, put_w15, put_ra, put_r8, put_r0, put_rt, put_wa, u1, u2, hn8]
             exact h))

