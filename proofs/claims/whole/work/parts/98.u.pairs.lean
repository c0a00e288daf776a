/-! TEXTS *** the reference: tests -/
theorem m_emit {M : jM} {Q : Int → jM → Prop} {s : PS} {k v : Int} (hs : 0 ≤ s.2.2.2.2.2.2.2.1 ∧ s.2.2.2.2.2.2.2.1 ≤ 249) (hk : 0 ≤ k ∧ k ≤ 100) (hv : -2147483648 ≤ v ∧ v ≤ 2147483647) (h : Q 0 (put M (pEmit k v s))) : jCt yX12_emit cX12_emit 3 none 1 [jR 928, jI k, jI v] (put M s) Q := by
  refine jCt_of mt_yX12_emit (Nat.le_of_ble_eq_true rfl) (fun X => ?_)
  refine e_aload_n (i := 0) 1 dX12_emit_0 rfl rfl rfl ?_
  refine e_getr (j := 4) 4 fl_12_24 dX12_emit_1 at_928 rfl rfl tp_928_4 rfl ?_
  refine e_bipush 6 dX12_emit_4 (by decide) rfl ?_
  refine e_iconst 7 dX12_emit_6 rfl ?_
  refine e_aload_n (i := 0) 8 dX12_emit_7 rfl rfl rfl ?_
  refine e_geti (j := 14) 11 fl_12_166 dX12_emit_8 at_928 (by decide) rfl rfl (fun r8 => ?_)
  simp (disch := omega) only [put_r6, put_w6, put_r7, put_w7, put_r9, put_w9, put_r10, put_w10, put_r11, put_w11, put_r12, put_w12, put_r13, put_w13, put_r14, put_w14, put_r15, put_w15, put_ra, put_r8, put_r0, put_rt, put_wa, u1, u2] at r8 ⊢
  refine e_imul 12 dX12_emit_11 rfl ?_
  refine e_iadd 13 dX12_emit_12 rfl ?_
  refine e_iload_n (i := 1) 14 dX12_emit_13 rfl rfl rfl ?_
  refine e_iast 15 dX12_emit_14 ar_932 (by omega) (by omega) (by omega) rfl ?_
  refine e_aload_n (i := 0) 16 dX12_emit_15 rfl rfl rfl ?_
  refine e_getr (j := 4) 19 fl_12_24 dX12_emit_16 at_928 rfl rfl tp_928_4 rfl ?_
  refine e_bipush 21 dX12_emit_19 (by decide) rfl ?_
  refine e_iconst 22 dX12_emit_21 rfl ?_
  refine e_aload_n (i := 0) 23 dX12_emit_22 rfl rfl rfl ?_
  refine e_geti (j := 14) 26 fl_12_166 dX12_emit_23 at_928 (by decide) rfl rfl (fun r23 => ?_)
  simp (disch := omega) only [put_r6, put_w6, put_r7, put_w7, put_r9, put_w9, put_r10, put_w10, put_r11, put_w11, put_r12, put_w12, put_r13, put_w13, put_r14, put_w14, put_r15, put_w15, put_ra, put_r8, put_r0, put_rt, put_wa, u1, u2] at r23 ⊢
  refine e_imul 27 dX12_emit_26 rfl ?_
  refine e_iadd 28 dX12_emit_27 rfl ?_
  refine e_iconst 29 dX12_emit_28 rfl ?_
  refine e_iadd 30 dX12_emit_29 rfl ?_
  refine e_iload_n (i := 2) 31 dX12_emit_30 rfl rfl rfl ?_
  refine e_iast 32 dX12_emit_31 ar_932 (by omega) (by omega) (by omega) rfl ?_
  refine e_aload_n (i := 0) 33 dX12_emit_32 rfl rfl rfl ?_
  refine e_dup 34 dX12_emit_33 rfl rfl ?_
  refine e_geti (j := 14) 37 fl_12_166 dX12_emit_34 at_928 (by decide) rfl rfl (fun r34 => ?_)
  simp (disch := omega) only [put_r6, put_w6, put_r7, put_w7, put_r9, put_w9, put_r10, put_w10, put_r11, put_w11, put_r12, put_w12, put_r13, put_w13, put_r14, put_w14, put_r15, put_w15, put_ra, put_r8, put_r0, put_rt, put_wa, u1, u2] at r34 ⊢
  refine e_iconst 38 dX12_emit_37 rfl ?_
  refine e_iadd 39 dX12_emit_38 rfl ?_
  refine e_puti (j := 14) 42 fl_12_166 dX12_emit_39 at_928 rfl rfl rfl (by omega) rfl ?_
  refine e_vret dX12_emit_42 ?_
  simp (disch := omega) only [put_r6, put_w6, put_r7, put_w7, put_r9, put_w9, put_r10, put_w10, put_r11, put_w11, put_r12, put_w12, put_r13, put_w13, put_r14, put_w14, put_r15, put_w15, put_ra, put_r8, put_r0, put_rt, put_wa, u1, u2]
  exact h

def RFact (M : jM) (n : Int) (f : Nat) : Prop := ∀ (s : PS) (Q : Int → jM → Prop) (e : Nat), PI n s → 5 * (n - s.1) + 1 ≤ f → 8 - s.2.2.2.2.2.2.1 ≤ e → Q 0 (put M (prs (M 931) n f 0 s)) → jCt yX12_readFact cX12_readFact 3 none (3 * e + 9) [jR 928] (put M s) Q
def RPart (M : jM) (n : Int) (f : Nat) : Prop := ∀ (s : PS) (Q : Int → jM → Prop) (e : Nat), PI n s → 5 * (n - s.1) + 2 ≤ f → 8 - s.2.2.2.2.2.2.1 ≤ e → Q 0 (put M (prs (M 931) n f 3 s)) → jCt yX12_readPart cX12_readPart 1 none (3 * e + 10) [jR 928] (put M s) Q
def RTest (M : jM) (n : Int) (f : Nat) : Prop := ∀ (s : PS) (Q : Int → jM → Prop) (e : Nat), PI n s → 5 * (n - s.1) + 3 ≤ f → 8 - s.2.2.2.2.2.2.1 ≤ e → Q 0 (put M (prs (M 931) n f 4 s)) → jCt yX12_readTest cX12_readTest 1 none (3 * e + 11) [jR 928] (put M s) Q
def RLp (M : jM) (n : Int) (f : Nat) : Prop := ∀ (X : jX) (s : PS) (Q : Int → jM → Prop) (e : Nat), PI n s → 5 * (n - s.1) + 1 ≤ f → 8 - s.2.2.2.2.2.2.1 ≤ e → Q 0 (put M (prs (M 931) n f 1 s)) → jE X yX12_readPart cX12_readPart 1 none (3 * e + 10) Q (put M s) 4 [(0, jR 928)] []
def RLt (M : jM) (n : Int) (f : Nat) : Prop := ∀ (X : jX) (s : PS) (Q : Int → jM → Prop) (e : Nat), PI n s → 5 * (n - s.1) + 1 ≤ f → 8 - s.2.2.2.2.2.2.1 ≤ e → Q 0 (put M (prs (M 931) n f 2 s)) → jE X yX12_readTest cX12_readTest 1 none (3 * e + 11) Q (put M s) 4 [(0, jR 928)] []
theorem rf_step {M : jM} {n : Int} (hT : RT M n) {f : Nat} (hRF : RFact M n f) (hRT : RTest M n f) : RFact M n (f + 1) := by
  intro s Q e hI hm he h
  refine jCt_of mt_yX12_readFact (Nat.le_of_ble_eq_true rfl) (fun X => ?_)
  have hn8 := hT.1
  have hn := hT.2.1
  have q0 := hI.rng
  have i0 := hI.1
  have w0 := hI.2.2.2.1
  have d0 := hI.2.2.2.2.2.1
  have c0 := hI.2.1
  have p5 := (pk_fail (f := 5) (by omega) hI).2
  have p2f := (pk_fail (f := 2) (by omega) hI).2
  have x1 : s.2.2.1 ≤ 19 → s.1 + 2 ≤ s.2.1 := hI.2.1.2.2.1
  have x2 : s.2.2.1 ≠ 25 → s.1 < s.2.1 := hI.2.1.2.2.2
  by_cases hw0 : s.2.2.2.2.1 ≠ 0
  case pos =>
    refine e_aload_n (i := 0) 1 dX12_readFact_0 rfl rfl rfl ?_
    refine e_geti (j := 11) 4 fl_12_123 dX12_readFact_1 at_928 (by decide) rfl rfl (fun r1 => ?_)
    simp (disch := omega) only [put_r6, put_w6, put_r7, put_w7, put_r9, put_w9, put_r10, put_w10, put_r11, put_w11, put_r12, put_w12, put_r13, put_w13, put_r14, put_w14, put_r15, put_w15, put_ra, put_r8, put_r0, put_rt, put_wa, u1, u2, hn8] at r1 ⊢
    refine e_if_eq 7 8 dX12_readFact_4 (by omega) (by decide) rfl (fun b4 => ?_) (fun b4 => ?_)
    · omega
    · skip
      refine e_vret dX12_readFact_7 ?_
      rw [prs, if_pos rfl, if_pos hw0] at h
      exact h
  have hw : s.2.2.2.2.1 = 0 := by omega
  by_cases hk : s.2.2.1 = 13
  case pos =>
    refine e_aload_n (i := 0) 1 dX12_readFact_0 rfl rfl rfl ?_
    refine e_geti (j := 11) 4 fl_12_123 dX12_readFact_1 at_928 (by decide) rfl rfl (fun r1 => ?_)
    simp (disch := omega) only [put_r6, put_w6, put_r7, put_w7, put_r9, put_w9, put_r10, put_w10, put_r11, put_w11, put_r12, put_w12, put_r13, put_w13, put_r14, put_w14, put_r15, put_w15, put_ra, put_r8, put_r0, put_rt, put_wa, u1, u2, hn8] at r1 ⊢
    refine e_if_eq 7 8 dX12_readFact_4 (by omega) (by decide) rfl (fun b4 => ?_) (fun b4 => ?_)
    · first
       | (exfalso; omega)
       | (skip
          refine e_aload_n (i := 0) 9 dX12_readFact_8 rfl rfl rfl ?_
          refine e_geti (j := 9) 12 fl_12_107 dX12_readFact_9 at_928 (by decide) rfl rfl (fun r9 => ?_)
          simp (disch := omega) only [put_r6, put_w6, put_r7, put_w7, put_r9, put_w9, put_r10, put_w10, put_r11, put_w11, put_r12, put_w12, put_r13, put_w13, put_r14, put_w14, put_r15, put_w15, put_ra, put_r8, put_r0, put_rt, put_wa, u1, u2, hn8] at r9 ⊢
          refine e_istore_n (i := 1) (lsn := [(1, _), (0, _)]) 13 dX12_readFact_12 rfl (by decide) rfl rfl ?_
          refine e_iload_n (i := 1) 14 dX12_readFact_13 rfl rfl rfl ?_
          refine e_bipush 16 dX12_readFact_14 (by decide) rfl ?_
          refine e_icmp_eq 19 25 dX12_readFact_16 (by omega) (by decide) (by decide) rfl (fun b16 => ?_) (fun b16 => ?_)
          · first
             | (exfalso; omega)
             | (skip
                refine e_aload_n (i := 0) 26 dX12_readFact_25 rfl rfl rfl ?_
                refine e_geti (j := 13) 29 fl_12_179 dX12_readFact_26 at_928 (by decide) rfl rfl (fun r26 => ?_)
                simp (disch := omega) only [put_r6, put_w6, put_r7, put_w7, put_r9, put_w9, put_r10, put_w10, put_r11, put_w11, put_r12, put_w12, put_r13, put_w13, put_r14, put_w14, put_r15, put_w15, put_ra, put_r8, put_r0, put_rt, put_wa, u1, u2, hn8] at r26 ⊢
                refine e_bipush 31 dX12_readFact_29 (by decide) rfl ?_
                refine e_icmp_ne 34 39 dX12_readFact_31 (by omega) (by decide) (by decide) rfl (fun b31 => ?_) (fun b31 => ?_)
                · first
                   | (exfalso; omega)
                   | (skip
                      refine e_aload_n (i := 0) 40 dX12_readFact_39 rfl rfl rfl ?_
                      refine e_geti (j := 11) 43 fl_12_123 dX12_readFact_40 at_928 (by decide) rfl rfl (fun r40 => ?_)
                      simp (disch := omega) only [put_r6, put_w6, put_r7, put_w7, put_r9, put_w9, put_r10, put_w10, put_r11, put_w11, put_r12, put_w12, put_r13, put_w13, put_r14, put_w14, put_r15, put_w15, put_ra, put_r8, put_r0, put_rt, put_wa, u1, u2, hn8] at r40 ⊢
                      refine e_if_eq 46 47 dX12_readFact_43 (by omega) (by decide) rfl (fun b43 => ?_) (fun b43 => ?_)
                      · first
                         | (exfalso; omega)
                         | (skip
                            refine e_aload_n (i := 0) 48 dX12_readFact_47 rfl rfl rfl ?_
                            refine e_callV 51 mt_yX12_next mv_yX12_next wd_1393 (by decide) dX12_readFact_48 at_928 jc_12 rfl rfl rfl (Nat.le_of_ble_eq_true rfl) (jroom (by omega)) rfl (m_next hT (by (try simp (disch := omega) only [put_r6, put_w6, put_r7, put_w7, put_r9, put_w9, put_r10, put_w10, put_r11, put_w11, put_r12, put_w12, put_r13, put_w13, put_r14, put_w14, put_r15, put_w15, put_ra, put_r8, put_r0, put_rt, put_wa, u1, u2, hn8]); omega) ?_)
                            dsimp only [jpush]
                            (try simp (disch := omega) only [put_r6, put_w6, put_r7, put_w7, put_r9, put_w9, put_r10, put_w10, put_r11, put_w11, put_r12, put_w12, put_r13, put_w13, put_r14, put_w14, put_r15, put_w15, put_ra, put_r8, put_r0, put_rt, put_wa, u1, u2, hn8])
                            obtain ⟨s1, e1⟩ : ∃ z, z = pNext (M 931) n s := ⟨_, rfl⟩
                            rw [← e1]
                            have k1 := pk_next hT hI (by omega)
                            rw [← e1] at k1
                            have q1 := k1.1.1.rng
                            have v1 := k1.1.1.2.2.1
                            have l1 := k1.2
                            have d1 : s1.2.2.2.2.2.2.1 = s.2.2.2.2.2.2.1 := by rw [e1]; rfl
                            refine e_aload_n (i := 0) 52 dX12_readFact_51 rfl rfl rfl ?_
                            refine e_dup 53 dX12_readFact_52 rfl rfl ?_
                            refine e_geti (j := 13) 56 fl_12_179 dX12_readFact_53 at_928 (by decide) rfl rfl (fun r53 => ?_)
                            simp (disch := omega) only [put_r6, put_w6, put_r7, put_w7, put_r9, put_w9, put_r10, put_w10, put_r11, put_w11, put_r12, put_w12, put_r13, put_w13, put_r14, put_w14, put_r15, put_w15, put_ra, put_r8, put_r0, put_rt, put_wa, u1, u2, hn8] at r53 ⊢
                            refine e_iconst 57 dX12_readFact_56 rfl ?_
                            refine e_iadd 58 dX12_readFact_57 rfl ?_
                            refine e_puti (j := 13) 61 fl_12_179 dX12_readFact_58 at_928 rfl rfl rfl (by omega) rfl ?_
                            refine e_iload_n (i := 1) 62 dX12_readFact_61 rfl rfl rfl ?_
                            refine e_bipush 64 dX12_readFact_62 (by decide) rfl ?_
                            refine e_icmp_ne 67 74 dX12_readFact_64 (by omega) (by decide) (by decide) rfl (fun b64 => ?_) (fun b64 => ?_)
                            · omega
                            · first
                               | (exfalso; omega)
                               | (skip
                                  simp (disch := omega) only [put_r6, put_w6, put_r7, put_w7, put_r9, put_w9, put_r10, put_w10, put_r11, put_w11, put_r12, put_w12, put_r13, put_w13, put_r14, put_w14, put_r15, put_w15, put_ra, put_r8, put_r0, put_rt, put_wa, u1, u2, hn8]
                                  obtain ⟨s2, e2⟩ : ∃ z, z = pIn s1 := ⟨_, rfl⟩
                                  have g2 : pIn s1 = s2 := e2.symm
                                  unfold pIn at g2
                                  rw [g2]
                                  have i2 : PI n s2 := by
                                    rw [e2]
                                    exact pi_in k1.1.1 (by omega)
                                  have p2 : s2.1 = s1.1 := by rw [e2]; rfl
                                  have d2 : s2.2.2.2.2.2.2.1 = s1.2.2.2.2.2.2.1 + 1 := by rw [e2]; rfl
                                  refine e_aload_n (i := 0) 68 dX12_readFact_67 rfl rfl rfl ?_
                                  refine e_callV 71 mt_yX12_readFact mv_yX12_readFact wd_1460 (by decide) dX12_readFact_68 at_928 jc_12 rfl rfl rfl (Nat.le_of_ble_eq_true rfl) (jroom (by omega)) rfl (hRF s2 _ (e - 1) i2 (by (try simp (disch := omega) only [put_r6, put_w6, put_r7, put_w7, put_r9, put_w9, put_r10, put_w10, put_r11, put_w11, put_r12, put_w12, put_r13, put_w13, put_r14, put_w14, put_r15, put_w15, put_ra, put_r8, put_r0, put_rt, put_wa, u1, u2, hn8]); omega) (by (try simp (disch := omega) only [put_r6, put_w6, put_r7, put_w7, put_r9, put_w9, put_r10, put_w10, put_r11, put_w11, put_r12, put_w12, put_r13, put_w13, put_r14, put_w14, put_r15, put_w15, put_ra, put_r8, put_r0, put_rt, put_wa, u1, u2, hn8]); omega) ?_)
                                  dsimp only [jpush]
                                  (try simp (disch := omega) only [put_r6, put_w6, put_r7, put_w7, put_r9, put_w9, put_r10, put_w10, put_r11, put_w11, put_r12, put_w12, put_r13, put_w13, put_r14, put_w14, put_r15, put_w15, put_ra, put_r8, put_r0, put_rt, put_wa, u1, u2, hn8])
                                  obtain ⟨s3, e3⟩ : ∃ z, z = prs (M 931) n f 0 s2 := ⟨_, rfl⟩
                                  rw [← e3]
                                  have k3 := prs_ok hT f 0 s2 i2
                                  rw [← e3] at k3
                                  have d3 := k3.2.2.2.2.1
                                  refine e_goto 78 dX12_readFact_71 (by decide) ?_
                                  refine e_aload_n (i := 0) 79 dX12_readFact_78 rfl rfl rfl ?_
                                  refine e_dup 80 dX12_readFact_79 rfl rfl ?_
                                  refine e_geti (j := 13) 83 fl_12_179 dX12_readFact_80 at_928 (by decide) rfl rfl (fun r80 => ?_)
                                  simp (disch := omega) only [put_r6, put_w6, put_r7, put_w7, put_r9, put_w9, put_r10, put_w10, put_r11, put_w11, put_r12, put_w12, put_r13, put_w13, put_r14, put_w14, put_r15, put_w15, put_ra, put_r8, put_r0, put_rt, put_wa, u1, u2, hn8] at r80 ⊢
                                  refine e_iconst 84 dX12_readFact_83 rfl ?_
                                  refine e_isub 85 dX12_readFact_84 rfl ?_
                                  refine e_puti (j := 13) 88 fl_12_179 dX12_readFact_85 at_928 rfl rfl rfl (by omega) rfl ?_
                                  simp (disch := omega) only [put_r6, put_w6, put_r7, put_w7, put_r9, put_w9, put_r10, put_w10, put_r11, put_w11, put_r12, put_w12, put_r13, put_w13, put_r14, put_w14, put_r15, put_w15, put_ra, put_r8, put_r0, put_rt, put_wa, u1, u2, hn8]
                                  obtain ⟨s4, e4⟩ : ∃ z, z = pOut s3 := ⟨_, rfl⟩
                                  have g4 : pOut s3 = s4 := e4.symm
                                  unfold pOut at g4
                                  rw [g4]
                                  have k4 := pq_io (s := s1) (z := s3) (by omega) k1.1.1 (by rw [← e2]; exact k3)
                                  rw [← e4] at k4
                                  have q4 := k4.1.rng
                                  have i4 := k4.1.1
                                  have t4 := k4.1.2.2.2.2.1
                                  refine e_iload_n (i := 1) 89 dX12_readFact_88 rfl rfl rfl ?_
                                  refine e_bipush 91 dX12_readFact_89 (by decide) rfl ?_
                                  refine e_icmp_ne 94 103 dX12_readFact_91 (by omega) (by decide) (by decide) rfl (fun b91 => ?_) (fun b91 => ?_)
                                  · first
                                     | (exfalso; omega)
                                     | (skip
                                        refine e_aload_n (i := 0) 104 dX12_readFact_103 rfl rfl rfl ?_
                                        refine e_geti (j := 11) 107 fl_12_123 dX12_readFact_104 at_928 (by decide) rfl rfl (fun r104 => ?_)
                                        simp (disch := omega) only [put_r6, put_w6, put_r7, put_w7, put_r9, put_w9, put_r10, put_w10, put_r11, put_w11, put_r12, put_w12, put_r13, put_w13, put_r14, put_w14, put_r15, put_w15, put_ra, put_r8, put_r0, put_rt, put_wa, u1, u2, hn8] at r104 ⊢
                                        refine e_if_ne 110 117 dX12_readFact_107 (by omega) (by decide) rfl (fun b107 => ?_) (fun b107 => ?_)
                                        · first
                                           | (exfalso; omega)
                                           | (skip
                                              refine e_vret dX12_readFact_117 ?_
                                              first
                                                | (exfalso; omega)
                                                | (rw [prs, if_pos rfl, if_neg (by omega), if_pos hk, if_neg (by omega), ← e1, ← e2, ← e3, ← e4, pEm, if_neg (by omega)] at h
                                                   exact h))
                                        · first
                                           | (exfalso; omega)
                                           | (skip
                                              refine e_aload_n (i := 0) 111 dX12_readFact_110 rfl rfl rfl ?_
                                              refine e_bipush 113 dX12_readFact_111 (by decide) rfl ?_
                                              refine e_iconst 114 dX12_readFact_113 rfl ?_
                                              refine e_callV 117 mt_yX12_emit mv_yX12_emit wd_1464 (by decide) dX12_readFact_114 at_928 jc_12 rfl rfl rfl (Nat.le_of_ble_eq_true rfl) (jroom (by omega)) rfl (m_emit (by (try simp (disch := omega) only [put_r6, put_w6, put_r7, put_w7, put_r9, put_w9, put_r10, put_w10, put_r11, put_w11, put_r12, put_w12, put_r13, put_w13, put_r14, put_w14, put_r15, put_w15, put_ra, put_r8, put_r0, put_rt, put_wa, u1, u2, hn8]); omega) (by (try simp (disch := omega) only [put_r6, put_w6, put_r7, put_w7, put_r9, put_w9, put_r10, put_w10, put_r11, put_w11, put_r12, put_w12, put_r13, put_w13, put_r14, put_w14, put_r15, put_w15, put_ra, put_r8, put_r0, put_rt, put_wa, u1, u2, hn8]); omega) (by (try simp (disch := omega) only [put_r6, put_w6, put_r7, put_w7, put_r9, put_w9, put_r10, put_w10, put_r11, put_w11, put_r12, put_w12, put_r13, put_w13, put_r14, put_w14, put_r15, put_w15, put_ra, put_r8, put_r0, put_rt, put_wa, u1, u2, hn8]); omega) ?_)
                                              dsimp only [jpush]
                                              (try simp (disch := omega) only [put_r6, put_w6, put_r7, put_w7, put_r9, put_w9, put_r10, put_w10, put_r11, put_w11, put_r12, put_w12, put_r13, put_w13, put_r14, put_w14, put_r15, put_w15, put_ra, put_r8, put_r0, put_rt, put_wa, u1, u2, hn8])
                                              refine e_vret dX12_readFact_117 ?_
                                              first
                                                | (exfalso; omega)
                                                | (rw [prs, if_pos rfl, if_neg (by omega), if_pos hk, if_neg (by omega), ← e1, ← e2, ← e3, ← e4, pEm, if_pos (by omega)] at h
                                                   exact h)))
                                  · omega))
                      · first
                         | (exfalso; omega)
                         | (skip
                            refine e_vret dX12_readFact_46 ?_
                            first
                              | (exfalso; omega)
                              | (rw [prs, if_pos rfl, if_neg (by omega), if_pos hk, if_pos (by omega)] at h
                                 exact h)))
                · first
                   | (exfalso; omega)
                   | (skip
                      refine e_aload_n (i := 0) 35 dX12_readFact_34 rfl rfl rfl ?_
                      refine e_iconst 36 dX12_readFact_35 rfl ?_
                      refine e_callV 39 mt_yX12_fails mv_yX12_fails wd_1426 (by decide) dX12_readFact_36 at_928 jc_12 rfl rfl rfl (Nat.le_of_ble_eq_true rfl) (jroom (by omega)) rfl (m_fails (by (try simp (disch := omega) only [put_r6, put_w6, put_r7, put_w7, put_r9, put_w9, put_r10, put_w10, put_r11, put_w11, put_r12, put_w12, put_r13, put_w13, put_r14, put_w14, put_r15, put_w15, put_ra, put_r8, put_r0, put_rt, put_wa, u1, u2, hn8]); omega) ?_)
                      dsimp only [jpush]
                      (try simp (disch := omega) only [put_r6, put_w6, put_r7, put_w7, put_r9, put_w9, put_r10, put_w10, put_r11, put_w11, put_r12, put_w12, put_r13, put_w13, put_r14, put_w14, put_r15, put_w15, put_ra, put_r8, put_r0, put_rt, put_wa, u1, u2, hn8])
                      refine e_aload_n (i := 0) 40 dX12_readFact_39 rfl rfl rfl ?_
                      refine e_geti (j := 11) 43 fl_12_123 dX12_readFact_40 at_928 (by decide) rfl rfl (fun r40 => ?_)
                      simp (disch := omega) only [put_r6, put_w6, put_r7, put_w7, put_r9, put_w9, put_r10, put_w10, put_r11, put_w11, put_r12, put_w12, put_r13, put_w13, put_r14, put_w14, put_r15, put_w15, put_ra, put_r8, put_r0, put_rt, put_wa, u1, u2, hn8] at r40 ⊢
                      refine e_if_eq 46 47 dX12_readFact_43 (by omega) (by decide) rfl (fun b43 => ?_) (fun b43 => ?_)
                      · first
                         | (exfalso; omega)
                         | (skip
                            refine e_aload_n (i := 0) 48 dX12_readFact_47 rfl rfl rfl ?_
                            refine e_callV 51 mt_yX12_next mv_yX12_next wd_1393 (by decide) dX12_readFact_48 at_928 jc_12 rfl rfl rfl (Nat.le_of_ble_eq_true rfl) (jroom (by omega)) rfl (m_next hT (by (try simp (disch := omega) only [put_r6, put_w6, put_r7, put_w7, put_r9, put_w9, put_r10, put_w10, put_r11, put_w11, put_r12, put_w12, put_r13, put_w13, put_r14, put_w14, put_r15, put_w15, put_ra, put_r8, put_r0, put_rt, put_wa, u1, u2, hn8]); omega) ?_)
                            dsimp only [jpush]
                            (try simp (disch := omega) only [put_r6, put_w6, put_r7, put_w7, put_r9, put_w9, put_r10, put_w10, put_r11, put_w11, put_r12, put_w12, put_r13, put_w13, put_r14, put_w14, put_r15, put_w15, put_ra, put_r8, put_r0, put_rt, put_wa, u1, u2, hn8])
                            obtain ⟨s1, e1⟩ : ∃ z, z = pNext (M 931) n s := ⟨_, rfl⟩
                            rw [← e1]
                            have k1 := pk_next hT hI (by omega)
                            rw [← e1] at k1
                            have q1 := k1.1.1.rng
                            have v1 := k1.1.1.2.2.1
                            have l1 := k1.2
                            have d1 : s1.2.2.2.2.2.2.1 = s.2.2.2.2.2.2.1 := by rw [e1]; rfl
                            refine e_aload_n (i := 0) 52 dX12_readFact_51 rfl rfl rfl ?_
                            refine e_dup 53 dX12_readFact_52 rfl rfl ?_
                            refine e_geti (j := 13) 56 fl_12_179 dX12_readFact_53 at_928 (by decide) rfl rfl (fun r53 => ?_)
                            simp (disch := omega) only [put_r6, put_w6, put_r7, put_w7, put_r9, put_w9, put_r10, put_w10, put_r11, put_w11, put_r12, put_w12, put_r13, put_w13, put_r14, put_w14, put_r15, put_w15, put_ra, put_r8, put_r0, put_rt, put_wa, u1, u2, hn8] at r53 ⊢
                            refine e_iconst 57 dX12_readFact_56 rfl ?_
                            refine e_iadd 58 dX12_readFact_57 rfl ?_
                            refine e_puti (j := 13) 61 fl_12_179 dX12_readFact_58 at_928 rfl rfl rfl (by omega) rfl ?_
                            refine e_iload_n (i := 1) 62 dX12_readFact_61 rfl rfl rfl ?_
                            refine e_bipush 64 dX12_readFact_62 (by decide) rfl ?_
                            refine e_icmp_ne 67 74 dX12_readFact_64 (by omega) (by decide) (by decide) rfl (fun b64 => ?_) (fun b64 => ?_)
                            · omega
                            · first
                               | (exfalso; omega)
                               | (skip
                                  simp (disch := omega) only [put_r6, put_w6, put_r7, put_w7, put_r9, put_w9, put_r10, put_w10, put_r11, put_w11, put_r12, put_w12, put_r13, put_w13, put_r14, put_w14, put_r15, put_w15, put_ra, put_r8, put_r0, put_rt, put_wa, u1, u2, hn8]
                                  obtain ⟨s2, e2⟩ : ∃ z, z = pIn s1 := ⟨_, rfl⟩
                                  have g2 : pIn s1 = s2 := e2.symm
                                  unfold pIn at g2
                                  rw [g2]
                                  have i2 : PI n s2 := by
                                    rw [e2]
                                    exact pi_in k1.1.1 (by omega)
                                  have p2 : s2.1 = s1.1 := by rw [e2]; rfl
                                  have d2 : s2.2.2.2.2.2.2.1 = s1.2.2.2.2.2.2.1 + 1 := by rw [e2]; rfl
                                  refine e_aload_n (i := 0) 68 dX12_readFact_67 rfl rfl rfl ?_
                                  refine e_callV 71 mt_yX12_readFact mv_yX12_readFact wd_1460 (by decide) dX12_readFact_68 at_928 jc_12 rfl rfl rfl (Nat.le_of_ble_eq_true rfl) (jroom (by omega)) rfl (hRF s2 _ (e - 1) i2 (by (try simp (disch := omega) only [put_r6, put_w6, put_r7, put_w7, put_r9, put_w9, put_r10, put_w10, put_r11, put_w11, put_r12, put_w12, put_r13, put_w13, put_r14, put_w14, put_r15, put_w15, put_ra, put_r8, put_r0, put_rt, put_wa, u1, u2, hn8]); omega) (by (try simp (disch := omega) only [put_r6, put_w6, put_r7, put_w7, put_r9, put_w9, put_r10, put_w10, put_r11, put_w11, put_r12, put_w12, put_r13, put_w13, put_r14, put_w14, put_r15, put_w15, put_ra, put_r8, put_r0, put_rt, put_wa, u1, u2, hn8]); omega) ?_)
                                  dsimp only [jpush]
                                  (try simp (disch := omega) only [put_r6, put_w6, put_r7, put_w7, put_r9, put_w9, put_r10, put_w10, put_r11, put_w11, put_r12, put_w12, put_r13, put_w13, put_r14, put_w14, put_r15, put_w15, put_ra, put_r8, put_r0, put_rt, put_wa, u1, u2, hn8])
                                  obtain ⟨s3, e3⟩ : ∃ z, z = prs (M 931) n f 0 s2 := ⟨_, rfl⟩
                                  rw [← e3]
                                  have k3 := prs_ok hT f 0 s2 i2
                                  rw [← e3] at k3
                                  have d3 := k3.2.2.2.2.1
                                  refine e_goto 78 dX12_readFact_71 (by decide) ?_
                                  refine e_aload_n (i := 0) 79 dX12_readFact_78 rfl rfl rfl ?_
                                  refine e_dup 80 dX12_readFact_79 rfl rfl ?_
                                  refine e_geti (j := 13) 83 fl_12_179 dX12_readFact_80 at_928 (by decide) rfl rfl (fun r80 => ?_)
                                  simp (disch := omega) only [put_r6, put_w6, put_r7, put_w7, put_r9, put_w9, put_r10, put_w10, put_r11, put_w11, put_r12, put_w12, put_r13, put_w13, put_r14, put_w14, put_r15, put_w15, put_ra, put_r8, put_r0, put_rt, put_wa, u1, u2, hn8] at r80 ⊢
                                  refine e_iconst 84 dX12_readFact_83 rfl ?_
                                  refine e_isub 85 dX12_readFact_84 rfl ?_
                                  refine e_puti (j := 13) 88 fl_12_179 dX12_readFact_85 at_928 rfl rfl rfl (by omega) rfl ?_
                                  simp (disch := omega) only [put_r6, put_w6, put_r7, put_w7, put_r9, put_w9, put_r10, put_w10, put_r11, put_w11, put_r12, put_w12, put_r13, put_w13, put_r14, put_w14, put_r15, put_w15, put_ra, put_r8, put_r0, put_rt, put_wa, u1, u2, hn8]
                                  obtain ⟨s4, e4⟩ : ∃ z, z = pOut s3 := ⟨_, rfl⟩
                                  have g4 : pOut s3 = s4 := e4.symm
                                  unfold pOut at g4
                                  rw [g4]
                                  have k4 := pq_io (s := s1) (z := s3) (by omega) k1.1.1 (by rw [← e2]; exact k3)
                                  rw [← e4] at k4
                                  have q4 := k4.1.rng
                                  have i4 := k4.1.1
                                  have t4 := k4.1.2.2.2.2.1
                                  refine e_iload_n (i := 1) 89 dX12_readFact_88 rfl rfl rfl ?_
                                  refine e_bipush 91 dX12_readFact_89 (by decide) rfl ?_
                                  refine e_icmp_ne 94 103 dX12_readFact_91 (by omega) (by decide) (by decide) rfl (fun b91 => ?_) (fun b91 => ?_)
                                  · first
                                     | (exfalso; omega)
                                     | (skip
                                        refine e_aload_n (i := 0) 104 dX12_readFact_103 rfl rfl rfl ?_
                                        refine e_geti (j := 11) 107 fl_12_123 dX12_readFact_104 at_928 (by decide) rfl rfl (fun r104 => ?_)
                                        simp (disch := omega) only [put_r6, put_w6, put_r7, put_w7, put_r9, put_w9, put_r10, put_w10, put_r11, put_w11, put_r12, put_w12, put_r13, put_w13, put_r14, put_w14, put_r15, put_w15, put_ra, put_r8, put_r0, put_rt, put_wa, u1, u2, hn8] at r104 ⊢
                                        refine e_if_ne 110 117 dX12_readFact_107 (by omega) (by decide) rfl (fun b107 => ?_) (fun b107 => ?_)
                                        · first
                                           | (exfalso; omega)
                                           | (skip
                                              refine e_vret dX12_readFact_117 ?_
                                              first
                                                | (exfalso; omega)
                                                | (rw [prs, if_pos rfl, if_neg (by omega), if_pos hk, if_neg (by omega), ← e1, ← e2, ← e3, ← e4, pEm, if_neg (by omega)] at h
                                                   exact h))
                                        · first
                                           | (exfalso; omega)
                                           | (skip
                                              refine e_aload_n (i := 0) 111 dX12_readFact_110 rfl rfl rfl ?_
                                              refine e_bipush 113 dX12_readFact_111 (by decide) rfl ?_
                                              refine e_iconst 114 dX12_readFact_113 rfl ?_
                                              refine e_callV 117 mt_yX12_emit mv_yX12_emit wd_1464 (by decide) dX12_readFact_114 at_928 jc_12 rfl rfl rfl (Nat.le_of_ble_eq_true rfl) (jroom (by omega)) rfl (m_emit (by (try simp (disch := omega) only [put_r6, put_w6, put_r7, put_w7, put_r9, put_w9, put_r10, put_w10, put_r11, put_w11, put_r12, put_w12, put_r13, put_w13, put_r14, put_w14, put_r15, put_w15, put_ra, put_r8, put_r0, put_rt, put_wa, u1, u2, hn8]); omega) (by (try simp (disch := omega) only [put_r6, put_w6, put_r7, put_w7, put_r9, put_w9, put_r10, put_w10, put_r11, put_w11, put_r12, put_w12, put_r13, put_w13, put_r14, put_w14, put_r15, put_w15, put_ra, put_r8, put_r0, put_rt, put_wa, u1, u2, hn8]); omega) (by (try simp (disch := omega) only [put_r6, put_w6, put_r7, put_w7, put_r9, put_w9, put_r10, put_w10, put_r11, put_w11, put_r12, put_w12, put_r13, put_w13, put_r14, put_w14, put_r15, put_w15, put_ra, put_r8, put_r0, put_rt, put_wa, u1, u2, hn8]); omega) ?_)
                                              dsimp only [jpush]
                                              (try simp (disch := omega) only [put_r6, put_w6, put_r7, put_w7, put_r9, put_w9, put_r10, put_w10, put_r11, put_w11, put_r12, put_w12, put_r13, put_w13, put_r14, put_w14, put_r15, put_w15, put_ra, put_r8, put_r0, put_rt, put_wa, u1, u2, hn8])
                                              refine e_vret dX12_readFact_117 ?_
                                              first
                                                | (exfalso; omega)
                                                | (rw [prs, if_pos rfl, if_neg (by omega), if_pos hk, if_neg (by omega), ← e1, ← e2, ← e3, ← e4, pEm, if_pos (by omega)] at h
                                                   exact h)))
                                  · omega))
                      · first
                         | (exfalso; omega)
                         | (skip
                            refine e_vret dX12_readFact_46 ?_
                            first
                              | (exfalso; omega)
                              | (rw [prs, if_pos rfl, if_neg (by omega), if_pos hk, if_pos (by omega)] at h
                                 exact h))))
          · omega)
    · omega
  by_cases hk2 : s.2.2.1 = 23
  case pos =>
    refine e_aload_n (i := 0) 1 dX12_readFact_0 rfl rfl rfl ?_
    refine e_geti (j := 11) 4 fl_12_123 dX12_readFact_1 at_928 (by decide) rfl rfl (fun r1 => ?_)
    simp (disch := omega) only [put_r6, put_w6, put_r7, put_w7, put_r9, put_w9, put_r10, put_w10, put_r11, put_w11, put_r12, put_w12, put_r13, put_w13, put_r14, put_w14, put_r15, put_w15, put_ra, put_r8, put_r0, put_rt, put_wa, u1, u2, hn8] at r1 ⊢
    refine e_if_eq 7 8 dX12_readFact_4 (by omega) (by decide) rfl (fun b4 => ?_) (fun b4 => ?_)
    · first
       | (exfalso; omega)
       | (skip
          refine e_aload_n (i := 0) 9 dX12_readFact_8 rfl rfl rfl ?_
          refine e_geti (j := 9) 12 fl_12_107 dX12_readFact_9 at_928 (by decide) rfl rfl (fun r9 => ?_)
          simp (disch := omega) only [put_r6, put_w6, put_r7, put_w7, put_r9, put_w9, put_r10, put_w10, put_r11, put_w11, put_r12, put_w12, put_r13, put_w13, put_r14, put_w14, put_r15, put_w15, put_ra, put_r8, put_r0, put_rt, put_wa, u1, u2, hn8] at r9 ⊢
          refine e_istore_n (i := 1) (lsn := [(1, _), (0, _)]) 13 dX12_readFact_12 rfl (by decide) rfl rfl ?_
          refine e_iload_n (i := 1) 14 dX12_readFact_13 rfl rfl rfl ?_
          refine e_bipush 16 dX12_readFact_14 (by decide) rfl ?_
          refine e_icmp_eq 19 25 dX12_readFact_16 (by omega) (by decide) (by decide) rfl (fun b16 => ?_) (fun b16 => ?_)
          · omega
          · first
             | (exfalso; omega)
             | (skip
                refine e_iload_n (i := 1) 20 dX12_readFact_19 rfl rfl rfl ?_
                refine e_bipush 22 dX12_readFact_20 (by decide) rfl ?_
                refine e_icmp_ne 25 118 dX12_readFact_22 (by omega) (by decide) (by decide) rfl (fun b22 => ?_) (fun b22 => ?_)
                · omega
                · first
                   | (exfalso; omega)
                   | (skip
                      refine e_aload_n (i := 0) 26 dX12_readFact_25 rfl rfl rfl ?_
                      refine e_geti (j := 13) 29 fl_12_179 dX12_readFact_26 at_928 (by decide) rfl rfl (fun r26 => ?_)
                      simp (disch := omega) only [put_r6, put_w6, put_r7, put_w7, put_r9, put_w9, put_r10, put_w10, put_r11, put_w11, put_r12, put_w12, put_r13, put_w13, put_r14, put_w14, put_r15, put_w15, put_ra, put_r8, put_r0, put_rt, put_wa, u1, u2, hn8] at r26 ⊢
                      refine e_bipush 31 dX12_readFact_29 (by decide) rfl ?_
                      refine e_icmp_ne 34 39 dX12_readFact_31 (by omega) (by decide) (by decide) rfl (fun b31 => ?_) (fun b31 => ?_)
                      · first
                         | (exfalso; omega)
                         | (skip
                            refine e_aload_n (i := 0) 40 dX12_readFact_39 rfl rfl rfl ?_
                            refine e_geti (j := 11) 43 fl_12_123 dX12_readFact_40 at_928 (by decide) rfl rfl (fun r40 => ?_)
                            simp (disch := omega) only [put_r6, put_w6, put_r7, put_w7, put_r9, put_w9, put_r10, put_w10, put_r11, put_w11, put_r12, put_w12, put_r13, put_w13, put_r14, put_w14, put_r15, put_w15, put_ra, put_r8, put_r0, put_rt, put_wa, u1, u2, hn8] at r40 ⊢
                            refine e_if_eq 46 47 dX12_readFact_43 (by omega) (by decide) rfl (fun b43 => ?_) (fun b43 => ?_)
                            · first
                               | (exfalso; omega)
                               | (skip
                                  refine e_aload_n (i := 0) 48 dX12_readFact_47 rfl rfl rfl ?_
                                  refine e_callV 51 mt_yX12_next mv_yX12_next wd_1393 (by decide) dX12_readFact_48 at_928 jc_12 rfl rfl rfl (Nat.le_of_ble_eq_true rfl) (jroom (by omega)) rfl (m_next hT (by (try simp (disch := omega) only [put_r6, put_w6, put_r7, put_w7, put_r9, put_w9, put_r10, put_w10, put_r11, put_w11, put_r12, put_w12, put_r13, put_w13, put_r14, put_w14, put_r15, put_w15, put_ra, put_r8, put_r0, put_rt, put_wa, u1, u2, hn8]); omega) ?_)
                                  dsimp only [jpush]
                                  (try simp (disch := omega) only [put_r6, put_w6, put_r7, put_w7, put_r9, put_w9, put_r10, put_w10, put_r11, put_w11, put_r12, put_w12, put_r13, put_w13, put_r14, put_w14, put_r15, put_w15, put_ra, put_r8, put_r0, put_rt, put_wa, u1, u2, hn8])
                                  obtain ⟨s1, e1⟩ : ∃ z, z = pNext (M 931) n s := ⟨_, rfl⟩
                                  rw [← e1]
                                  have k1 := pk_next hT hI (by omega)
                                  rw [← e1] at k1
                                  have q1 := k1.1.1.rng
                                  have v1 := k1.1.1.2.2.1
                                  have l1 := k1.2
                                  have d1 : s1.2.2.2.2.2.2.1 = s.2.2.2.2.2.2.1 := by rw [e1]; rfl
                                  refine e_aload_n (i := 0) 52 dX12_readFact_51 rfl rfl rfl ?_
                                  refine e_dup 53 dX12_readFact_52 rfl rfl ?_
                                  refine e_geti (j := 13) 56 fl_12_179 dX12_readFact_53 at_928 (by decide) rfl rfl (fun r53 => ?_)
                                  simp (disch := omega) only [put_r6, put_w6, put_r7, put_w7, put_r9, put_w9, put_r10, put_w10, put_r11, put_w11, put_r12, put_w12, put_r13, put_w13, put_r14, put_w14, put_r15, put_w15, put_ra, put_r8, put_r0, put_rt, put_wa, u1, u2, hn8] at r53 ⊢
                                  refine e_iconst 57 dX12_readFact_56 rfl ?_
                                  refine e_iadd 58 dX12_readFact_57 rfl ?_
                                  refine e_puti (j := 13) 61 fl_12_179 dX12_readFact_58 at_928 rfl rfl rfl (by omega) rfl ?_
                                  refine e_iload_n (i := 1) 62 dX12_readFact_61 rfl rfl rfl ?_
                                  refine e_bipush 64 dX12_readFact_62 (by decide) rfl ?_
                                  refine e_icmp_ne 67 74 dX12_readFact_64 (by omega) (by decide) (by decide) rfl (fun b64 => ?_) (fun b64 => ?_)
                                  · first
                                     | (exfalso; omega)
                                     | (skip
                                        simp (disch := omega) only [put_r6, put_w6, put_r7, put_w7, put_r9, put_w9, put_r10, put_w10, put_r11, put_w11, put_r12, put_w12, put_r13, put_w13, put_r14, put_w14, put_r15, put_w15, put_ra, put_r8, put_r0, put_rt, put_wa, u1, u2, hn8]
                                        obtain ⟨s2, e2⟩ : ∃ z, z = pIn s1 := ⟨_, rfl⟩
                                        have g2 : pIn s1 = s2 := e2.symm
                                        unfold pIn at g2
                                        rw [g2]
                                        have i2 : PI n s2 := by
                                          rw [e2]
                                          exact pi_in k1.1.1 (by omega)
                                        have p2 : s2.1 = s1.1 := by rw [e2]; rfl
                                        have d2 : s2.2.2.2.2.2.2.1 = s1.2.2.2.2.2.2.1 + 1 := by rw [e2]; rfl
                                        refine e_aload_n (i := 0) 75 dX12_readFact_74 rfl rfl rfl ?_
                                        refine e_callV 78 mt_yX12_readTest mv_yX12_readTest wd_1452 (by decide) dX12_readFact_75 at_928 jc_12 rfl rfl rfl (Nat.le_of_ble_eq_true rfl) (jroom (by omega)) rfl (hRT s2 _ (e - 1) i2 (by (try simp (disch := omega) only [put_r6, put_w6, put_r7, put_w7, put_r9, put_w9, put_r10, put_w10, put_r11, put_w11, put_r12, put_w12, put_r13, put_w13, put_r14, put_w14, put_r15, put_w15, put_ra, put_r8, put_r0, put_rt, put_wa, u1, u2, hn8]); omega) (by (try simp (disch := omega) only [put_r6, put_w6, put_r7, put_w7, put_r9, put_w9, put_r10, put_w10, put_r11, put_w11, put_r12, put_w12, put_r13, put_w13, put_r14, put_w14, put_r15, put_w15, put_ra, put_r8, put_r0, put_rt, put_wa, u1, u2, hn8]); omega) ?_)
                                        dsimp only [jpush]
                                        (try simp (disch := omega) only [put_r6, put_w6, put_r7, put_w7, put_r9, put_w9, put_r10, put_w10, put_r11, put_w11, put_r12, put_w12, put_r13, put_w13, put_r14, put_w14, put_r15, put_w15, put_ra, put_r8, put_r0, put_rt, put_wa, u1, u2, hn8])
                                        obtain ⟨s3, e3⟩ : ∃ z, z = prs (M 931) n f 4 s2 := ⟨_, rfl⟩
                                        rw [← e3]
                                        have k3 := prs_ok hT f 4 s2 i2
                                        rw [← e3] at k3
                                        have d3 := k3.2.2.2.2.1
                                        refine e_aload_n (i := 0) 79 dX12_readFact_78 rfl rfl rfl ?_
                                        refine e_dup 80 dX12_readFact_79 rfl rfl ?_
                                        refine e_geti (j := 13) 83 fl_12_179 dX12_readFact_80 at_928 (by decide) rfl rfl (fun r80 => ?_)
                                        simp (disch := omega) only [put_r6, put_w6, put_r7, put_w7, put_r9, put_w9, put_r10, put_w10, put_r11, put_w11, put_r12, put_w12, put_r13, put_w13, put_r14, put_w14, put_r15, put_w15, put_ra, put_r8, put_r0, put_rt, put_wa, u1, u2, hn8] at r80 ⊢
                                        refine e_iconst 84 dX12_readFact_83 rfl ?_
                                        refine e_isub 85 dX12_readFact_84 rfl ?_
                                        refine e_puti (j := 13) 88 fl_12_179 dX12_readFact_85 at_928 rfl rfl rfl (by omega) rfl ?_
                                        simp (disch := omega) only [put_r6, put_w6, put_r7, put_w7, put_r9, put_w9, put_r10, put_w10, put_r11, put_w11, put_r12, put_w12, put_r13, put_w13, put_r14, put_w14, put_r15, put_w15, put_ra, put_r8, put_r0, put_rt, put_wa, u1, u2, hn8]
                                        obtain ⟨s4, e4⟩ : ∃ z, z = pOut s3 := ⟨_, rfl⟩
                                        have g4 : pOut s3 = s4 := e4.symm
                                        unfold pOut at g4
                                        rw [g4]
                                        have k4 := pq_io (s := s1) (z := s3) (by omega) k1.1.1 (by rw [← e2]; exact k3)
                                        rw [← e4] at k4
                                        have q4 := k4.1.rng
                                        have i4 := k4.1.1
                                        have t4 := k4.1.2.2.2.2.1
                                        refine e_iload_n (i := 1) 89 dX12_readFact_88 rfl rfl rfl ?_
                                        refine e_bipush 91 dX12_readFact_89 (by decide) rfl ?_
                                        refine e_icmp_ne 94 103 dX12_readFact_91 (by omega) (by decide) (by decide) rfl (fun b91 => ?_) (fun b91 => ?_)
                                        · omega
                                        · first
                                           | (exfalso; omega)
                                           | (skip
                                              refine e_aload_n (i := 0) 95 dX12_readFact_94 rfl rfl rfl ?_
                                              refine e_bipush 97 dX12_readFact_95 (by decide) rfl ?_
                                              refine e_callV 100 mt_yX12_musts mv_yX12_musts wd_1434 (by decide) dX12_readFact_97 at_928 jc_12 rfl rfl rfl (Nat.le_of_ble_eq_true rfl) (jroom (by omega)) rfl (m_musts hT (by (try simp (disch := omega) only [put_r6, put_w6, put_r7, put_w7, put_r9, put_w9, put_r10, put_w10, put_r11, put_w11, put_r12, put_w12, put_r13, put_w13, put_r14, put_w14, put_r15, put_w15, put_ra, put_r8, put_r0, put_rt, put_wa, u1, u2, hn8]); omega) (by (try simp (disch := omega) only [put_r6, put_w6, put_r7, put_w7, put_r9, put_w9, put_r10, put_w10, put_r11, put_w11, put_r12, put_w12, put_r13, put_w13, put_r14, put_w14, put_r15, put_w15, put_ra, put_r8, put_r0, put_rt, put_wa, u1, u2, hn8]); omega) ?_)
                                              dsimp only [jpush]
                                              (try simp (disch := omega) only [put_r6, put_w6, put_r7, put_w7, put_r9, put_w9, put_r10, put_w10, put_r11, put_w11, put_r12, put_w12, put_r13, put_w13, put_r14, put_w14, put_r15, put_w15, put_ra, put_r8, put_r0, put_rt, put_wa, u1, u2, hn8])
                                              refine e_goto 117 dX12_readFact_100 (by decide) ?_
                                              refine e_vret dX12_readFact_117 ?_
                                              first
                                                | (exfalso; omega)
                                                | (rw [prs, if_pos rfl, if_neg (by omega), if_neg hk, if_pos hk2, if_neg (by omega), ← e1, ← e2, ← e3, ← e4] at h
                                                   exact h)))
                                  · omega)
                            · first
                               | (exfalso; omega)
                               | (skip
                                  refine e_vret dX12_readFact_46 ?_
                                  first
                                    | (exfalso; omega)
                                    | (rw [prs, if_pos rfl, if_neg (by omega), if_neg hk, if_pos hk2, if_pos (by omega)] at h
                                       exact h)))
                      · first
                         | (exfalso; omega)
                         | (skip
                            refine e_aload_n (i := 0) 35 dX12_readFact_34 rfl rfl rfl ?_
                            refine e_iconst 36 dX12_readFact_35 rfl ?_
                            refine e_callV 39 mt_yX12_fails mv_yX12_fails wd_1426 (by decide) dX12_readFact_36 at_928 jc_12 rfl rfl rfl (Nat.le_of_ble_eq_true rfl) (jroom (by omega)) rfl (m_fails (by (try simp (disch := omega) only [put_r6, put_w6, put_r7, put_w7, put_r9, put_w9, put_r10, put_w10, put_r11, put_w11, put_r12, put_w12, put_r13, put_w13, put_r14, put_w14, put_r15, put_w15, put_ra, put_r8, put_r0, put_rt, put_wa, u1, u2, hn8]); omega) ?_)
                            dsimp only [jpush]
                            (try simp (disch := omega) only [put_r6, put_w6, put_r7, put_w7, put_r9, put_w9, put_r10, put_w10, put_r11, put_w11, put_r12, put_w12, put_r13, put_w13, put_r14, put_w14, put_r15, put_w15, put_ra, put_r8, put_r0, put_rt, put_wa, u1, u2, hn8])
                            refine e_aload_n (i := 0) 40 dX12_readFact_39 rfl rfl rfl ?_
                            refine e_geti (j := 11) 43 fl_12_123 dX12_readFact_40 at_928 (by decide) rfl rfl (fun r40 => ?_)
                            simp (disch := omega) only [put_r6, put_w6, put_r7, put_w7, put_r9, put_w9, put_r10, put_w10, put_r11, put_w11, put_r12, put_w12, put_r13, put_w13, put_r14, put_w14, put_r15, put_w15, put_ra, put_r8, put_r0, put_rt, put_wa, u1, u2, hn8] at r40 ⊢
                            refine e_if_eq 46 47 dX12_readFact_43 (by omega) (by decide) rfl (fun b43 => ?_) (fun b43 => ?_)
                            · first
                               | (exfalso; omega)
                               | (skip
                                  refine e_aload_n (i := 0) 48 dX12_readFact_47 rfl rfl rfl ?_
                                  refine e_callV 51 mt_yX12_next mv_yX12_next wd_1393 (by decide) dX12_readFact_48 at_928 jc_12 rfl rfl rfl (Nat.le_of_ble_eq_true rfl) (jroom (by omega)) rfl (m_next hT (by (try simp (disch := omega) only [put_r6, put_w6, put_r7, put_w7, put_r9, put_w9, put_r10, put_w10, put_r11, put_w11, put_r12, put_w12, put_r13, put_w13, put_r14, put_w14, put_r15, put_w15, put_ra, put_r8, put_r0, put_rt, put_wa, u1, u2, hn8]); omega) ?_)
                                  dsimp only [jpush]
                                  (try simp (disch := omega) only [put_r6, put_w6, put_r7, put_w7, put_r9, put_w9, put_r10, put_w10, put_r11, put_w11, put_r12, put_w12, put_r13, put_w13, put_r14, put_w14, put_r15, put_w15, put_ra, put_r8, put_r0, put_rt, put_wa, u1, u2, hn8])
                                  obtain ⟨s1, e1⟩ : ∃ z, z = pNext (M 931) n s := ⟨_, rfl⟩
                                  rw [← e1]
                                  have k1 := pk_next hT hI (by omega)
                                  rw [← e1] at k1
                                  have q1 := k1.1.1.rng
                                  have v1 := k1.1.1.2.2.1
                                  have l1 := k1.2
                                  have d1 : s1.2.2.2.2.2.2.1 = s.2.2.2.2.2.2.1 := by rw [e1]; rfl
                                  refine e_aload_n (i := 0) 52 dX12_readFact_51 rfl rfl rfl ?_
                                  refine e_dup 53 dX12_readFact_52 rfl rfl ?_
                                  refine e_geti (j := 13) 56 fl_12_179 dX12_readFact_53 at_928 (by decide) rfl rfl (fun r53 => ?_)
                                  simp (disch := omega) only [put_r6, put_w6, put_r7, put_w7, put_r9, put_w9, put_r10, put_w10, put_r11, put_w11, put_r12, put_w12, put_r13, put_w13, put_r14, put_w14, put_r15, put_w15, put_ra, put_r8, put_r0, put_rt, put_wa, u1, u2, hn8] at r53 ⊢
                                  refine e_iconst 57 dX12_readFact_56 rfl ?_
                                  refine e_iadd 58 dX12_readFact_57 rfl ?_
                                  refine e_puti (j := 13) 61 fl_12_179 dX12_readFact_58 at_928 rfl rfl rfl (by omega) rfl ?_
                                  refine e_iload_n (i := 1) 62 dX12_readFact_61 rfl rfl rfl ?_
                                  refine e_bipush 64 dX12_readFact_62 (by decide) rfl ?_
                                  refine e_icmp_ne 67 74 dX12_readFact_64 (by omega) (by decide) (by decide) rfl (fun b64 => ?_) (fun b64 => ?_)
                                  · first
                                     | (exfalso; omega)
                                     | (skip
                                        simp (disch := omega) only [put_r6, put_w6, put_r7, put_w7, put_r9, put_w9, put_r10, put_w10, put_r11, put_w11, put_r12, put_w12, put_r13, put_w13, put_r14, put_w14, put_r15, put_w15, put_ra, put_r8, put_r0, put_rt, put_wa, u1, u2, hn8]
                                        obtain ⟨s2, e2⟩ : ∃ z, z = pIn s1 := ⟨_, rfl⟩
                                        have g2 : pIn s1 = s2 := e2.symm
                                        unfold pIn at g2
                                        rw [g2]
                                        have i2 : PI n s2 := by
                                          rw [e2]
                                          exact pi_in k1.1.1 (by omega)
                                        have p2 : s2.1 = s1.1 := by rw [e2]; rfl
                                        have d2 : s2.2.2.2.2.2.2.1 = s1.2.2.2.2.2.2.1 + 1 := by rw [e2]; rfl
                                        refine e_aload_n (i := 0) 75 dX12_readFact_74 rfl rfl rfl ?_
                                        refine e_callV 78 mt_yX12_readTest mv_yX12_readTest wd_1452 (by decide) dX12_readFact_75 at_928 jc_12 rfl rfl rfl (Nat.le_of_ble_eq_true rfl) (jroom (by omega)) rfl (hRT s2 _ (e - 1) i2 (by (try simp (disch := omega) only [put_r6, put_w6, put_r7, put_w7, put_r9, put_w9, put_r10, put_w10, put_r11, put_w11, put_r12, put_w12, put_r13, put_w13, put_r14, put_w14, put_r15, put_w15, put_ra, put_r8, put_r0, put_rt, put_wa, u1, u2, hn8]); omega) (by (try simp (disch := omega) only [put_r6, put_w6, put_r7, put_w7, put_r9, put_w9, put_r10, put_w10, put_r11, put_w11, put_r12, put_w12, put_r13, put_w13, put_r14, put_w14, put_r15, put_w15, put_ra, put_r8, put_r0, put_rt, put_wa, u1, u2, hn8]); omega) ?_)
                                        dsimp only [jpush]
                                        (try simp (disch := omega) only [put_r6, put_w6, put_r7, put_w7, put_r9, put_w9, put_r10, put_w10, put_r11, put_w11, put_r12, put_w12, put_r13, put_w13, put_r14, put_w14, put_r15, put_w15, put_ra, put_r8, put_r0, put_rt, put_wa, u1, u2, hn8])
                                        obtain ⟨s3, e3⟩ : ∃ z, z = prs (M 931) n f 4 s2 := ⟨_, rfl⟩
                                        rw [← e3]
                                        have k3 := prs_ok hT f 4 s2 i2
                                        rw [← e3] at k3
                                        have d3 := k3.2.2.2.2.1
                                        refine e_aload_n (i := 0) 79 dX12_readFact_78 rfl rfl rfl ?_
                                        refine e_dup 80 dX12_readFact_79 rfl rfl ?_
                                        refine e_geti (j := 13) 83 fl_12_179 dX12_readFact_80 at_928 (by decide) rfl rfl (fun r80 => ?_)
                                        simp (disch := omega) only [put_r6, put_w6, put_r7, put_w7, put_r9, put_w9, put_r10, put_w10, put_r11, put_w11, put_r12, put_w12, put_r13, put_w13, put_r14, put_w14, put_r15, put_w15, put_ra, put_r8, put_r0, put_rt, put_wa, u1, u2, hn8] at r80 ⊢
                                        refine e_iconst 84 dX12_readFact_83 rfl ?_
                                        refine e_isub 85 dX12_readFact_84 rfl ?_
                                        refine e_puti (j := 13) 88 fl_12_179 dX12_readFact_85 at_928 rfl rfl rfl (by omega) rfl ?_
                                        simp (disch := omega) only [put_r6, put_w6, put_r7, put_w7, put_r9, put_w9, put_r10, put_w10, put_r11, put_w11, put_r12, put_w12, put_r13, put_w13, put_r14, put_w14, put_r15, put_w15, put_ra, put_r8, put_r0, put_rt, put_wa, u1, u2, hn8]
                                        obtain ⟨s4, e4⟩ : ∃ z, z = pOut s3 := ⟨_, rfl⟩
                                        have g4 : pOut s3 = s4 := e4.symm
                                        unfold pOut at g4
                                        rw [g4]
                                        have k4 := pq_io (s := s1) (z := s3) (by omega) k1.1.1 (by rw [← e2]; exact k3)
                                        rw [← e4] at k4
                                        have q4 := k4.1.rng
                                        have i4 := k4.1.1
                                        have t4 := k4.1.2.2.2.2.1
                                        refine e_iload_n (i := 1) 89 dX12_readFact_88 rfl rfl rfl ?_
                                        refine e_bipush 91 dX12_readFact_89 (by decide) rfl ?_
                                        refine e_icmp_ne 94 103 dX12_readFact_91 (by omega) (by decide) (by decide) rfl (fun b91 => ?_) (fun b91 => ?_)
                                        · omega
                                        · first
                                           | (exfalso; omega)
                                           | (skip
                                              refine e_aload_n (i := 0) 95 dX12_readFact_94 rfl rfl rfl ?_
                                              refine e_bipush 97 dX12_readFact_95 (by decide) rfl ?_
                                              refine e_callV 100 mt_yX12_musts mv_yX12_musts wd_1434 (by decide) dX12_readFact_97 at_928 jc_12 rfl rfl rfl (Nat.le_of_ble_eq_true rfl) (jroom (by omega)) rfl (m_musts hT (by (try simp (disch := omega) only [put_r6, put_w6, put_r7, put_w7, put_r9, put_w9, put_r10, put_w10, put_r11, put_w11, put_r12, put_w12, put_r13, put_w13, put_r14, put_w14, put_r15, put_w15, put_ra, put_r8, put_r0, put_rt, put_wa, u1, u2, hn8]); omega) (by (try simp (disch := omega) only [put_r6, put_w6, put_r7, put_w7, put_r9, put_w9, put_r10, put_w10, put_r11, put_w11, put_r12, put_w12, put_r13, put_w13, put_r14, put_w14, put_r15, put_w15, put_ra, put_r8, put_r0, put_rt, put_wa, u1, u2, hn8]); omega) ?_)
                                              dsimp only [jpush]
                                              (try simp (disch := omega) only [put_r6, put_w6, put_r7, put_w7, put_r9, put_w9, put_r10, put_w10, put_r11, put_w11, put_r12, put_w12, put_r13, put_w13, put_r14, put_w14, put_r15, put_w15, put_ra, put_r8, put_r0, put_rt, put_wa, u1, u2, hn8])
                                              refine e_goto 117 dX12_readFact_100 (by decide) ?_
                                              refine e_vret dX12_readFact_117 ?_
                                              first
                                                | (exfalso; omega)
                                                | (rw [prs, if_pos rfl, if_neg (by omega), if_neg hk, if_pos hk2, if_neg (by omega), ← e1, ← e2, ← e3, ← e4] at h
                                                   exact h)))
                                  · omega)
                            · first
                               | (exfalso; omega)
                               | (skip
                                  refine e_vret dX12_readFact_46 ?_
                                  first
                                    | (exfalso; omega)
                                    | (rw [prs, if_pos rfl, if_neg (by omega), if_neg hk, if_pos hk2, if_pos (by omega)] at h
                                       exact h))))))
    · omega
  refine e_aload_n (i := 0) 1 dX12_readFact_0 rfl rfl rfl ?_
  refine e_geti (j := 11) 4 fl_12_123 dX12_readFact_1 at_928 (by decide) rfl rfl (fun r1 => ?_)
  simp (disch := omega) only [put_r6, put_w6, put_r7, put_w7, put_r9, put_w9, put_r10, put_w10, put_r11, put_w11, put_r12, put_w12, put_r13, put_w13, put_r14, put_w14, put_r15, put_w15, put_ra, put_r8, put_r0, put_rt, put_wa, u1, u2, hn8] at r1 ⊢
  refine e_if_eq 7 8 dX12_readFact_4 (by omega) (by decide) rfl (fun b4 => ?_) (fun b4 => ?_)
  · first
     | (exfalso; omega)
     | (skip
        refine e_aload_n (i := 0) 9 dX12_readFact_8 rfl rfl rfl ?_
        refine e_geti (j := 9) 12 fl_12_107 dX12_readFact_9 at_928 (by decide) rfl rfl (fun r9 => ?_)
        simp (disch := omega) only [put_r6, put_w6, put_r7, put_w7, put_r9, put_w9, put_r10, put_w10, put_r11, put_w11, put_r12, put_w12, put_r13, put_w13, put_r14, put_w14, put_r15, put_w15, put_ra, put_r8, put_r0, put_rt, put_wa, u1, u2, hn8] at r9 ⊢
        refine e_istore_n (i := 1) (lsn := [(1, _), (0, _)]) 13 dX12_readFact_12 rfl (by decide) rfl rfl ?_
        refine e_iload_n (i := 1) 14 dX12_readFact_13 rfl rfl rfl ?_
        refine e_bipush 16 dX12_readFact_14 (by decide) rfl ?_
        refine e_icmp_eq 19 25 dX12_readFact_16 (by omega) (by decide) (by decide) rfl (fun b16 => ?_) (fun b16 => ?_)
        · omega
        · first
           | (exfalso; omega)
           | (skip
              refine e_iload_n (i := 1) 20 dX12_readFact_19 rfl rfl rfl ?_
              refine e_bipush 22 dX12_readFact_20 (by decide) rfl ?_
              refine e_icmp_ne 25 118 dX12_readFact_22 (by omega) (by decide) (by decide) rfl (fun b22 => ?_) (fun b22 => ?_)
              · first
                 | (exfalso; omega)
                 | (skip
                    refine e_iload_n (i := 1) 119 dX12_readFact_118 rfl rfl rfl ?_
                    refine e_i2l 120 dX12_readFact_119 (by omega) rfl ?_
                    refine e_ldc2 (z := (14)) 123 (ix := 185) wd_1468 (by decide) dX12_readFact_120 rfl ?_
                    refine e_ldc2 (z := (19)) 126 (ix := 187) wd_1469 (by decide) dX12_readFact_123 rfl ?_
                    refine e_callS 129 mt_yX12_within ms_yX12_within wd_1390 (by decide) dX12_readFact_126 rfl rfl (Nat.le_of_ble_eq_true rfl) (jroom (by omega)) rfl (m_within (by (try simp (disch := omega) only [put_r6, put_w6, put_r7, put_w7, put_r9, put_w9, put_r10, put_w10, put_r11, put_w11, put_r12, put_w12, put_r13, put_w13, put_r14, put_w14, put_r15, put_w15, put_ra, put_r8, put_r0, put_rt, put_wa, u1, u2, hn8]); omega) (by (try simp (disch := omega) only [put_r6, put_w6, put_r7, put_w7, put_r9, put_w9, put_r10, put_w10, put_r11, put_w11, put_r12, put_w12, put_r13, put_w13, put_r14, put_w14, put_r15, put_w15, put_ra, put_r8, put_r0, put_rt, put_wa, u1, u2, hn8]); omega) (by (try simp (disch := omega) only [put_r6, put_w6, put_r7, put_w7, put_r9, put_w9, put_r10, put_w10, put_r11, put_w11, put_r12, put_w12, put_r13, put_w13, put_r14, put_w14, put_r15, put_w15, put_ra, put_r8, put_r0, put_rt, put_wa, u1, u2, hn8]); omega) (fun w126 => ?_) (fun w126 => ?_))
                    · dsimp only [jpush]
                      (try simp (disch := omega) only [put_r6, put_w6, put_r7, put_w7, put_r9, put_w9, put_r10, put_w10, put_r11, put_w11, put_r12, put_w12, put_r13, put_w13, put_r14, put_w14, put_r15, put_w15, put_ra, put_r8, put_r0, put_rt, put_wa, u1, u2, hn8] at w126)
                      (try simp (disch := omega) only [put_r6, put_w6, put_r7, put_w7, put_r9, put_w9, put_r10, put_w10, put_r11, put_w11, put_r12, put_w12, put_r13, put_w13, put_r14, put_w14, put_r15, put_w15, put_ra, put_r8, put_r0, put_rt, put_wa, u1, u2, hn8])
                      first
                       | (exfalso; omega)
                       | (skip
                          refine e_if_ne 132 137 dX12_readFact_129 (by decide) (by decide) rfl (fun _ => ?_) (fun h => absurd h (by decide))
                          refine e_aload_n (i := 0) 138 dX12_readFact_137 rfl rfl rfl ?_
                          refine e_geti (j := 11) 141 fl_12_123 dX12_readFact_138 at_928 (by decide) rfl rfl (fun r138 => ?_)
                          simp (disch := omega) only [put_r6, put_w6, put_r7, put_w7, put_r9, put_w9, put_r10, put_w10, put_r11, put_w11, put_r12, put_w12, put_r13, put_w13, put_r14, put_w14, put_r15, put_w15, put_ra, put_r8, put_r0, put_rt, put_wa, u1, u2, hn8] at r138 ⊢
                          refine e_if_eq 144 145 dX12_readFact_141 (by omega) (by decide) rfl (fun b141 => ?_) (fun b141 => ?_)
                          · first
                             | (exfalso; omega)
                             | (skip
                                refine e_aload_n (i := 0) 146 dX12_readFact_145 rfl rfl rfl ?_
                                refine e_callV 149 mt_yX12_next mv_yX12_next wd_1393 (by decide) dX12_readFact_146 at_928 jc_12 rfl rfl rfl (Nat.le_of_ble_eq_true rfl) (jroom (by omega)) rfl (m_next hT (by (try simp (disch := omega) only [put_r6, put_w6, put_r7, put_w7, put_r9, put_w9, put_r10, put_w10, put_r11, put_w11, put_r12, put_w12, put_r13, put_w13, put_r14, put_w14, put_r15, put_w15, put_ra, put_r8, put_r0, put_rt, put_wa, u1, u2, hn8]); omega) ?_)
                                dsimp only [jpush]
                                (try simp (disch := omega) only [put_r6, put_w6, put_r7, put_w7, put_r9, put_w9, put_r10, put_w10, put_r11, put_w11, put_r12, put_w12, put_r13, put_w13, put_r14, put_w14, put_r15, put_w15, put_ra, put_r8, put_r0, put_rt, put_wa, u1, u2, hn8])
                                obtain ⟨s1, e1⟩ : ∃ z, z = pNext (M 931) n s := ⟨_, rfl⟩
                                rw [← e1]
                                have k1 := pk_next hT hI (by omega)
                                rw [← e1] at k1
                                have q1 := k1.1.1.rng
                                have v1 := k1.1.1.2.2.1
                                have l1 := k1.2
                                have d1 : s1.2.2.2.2.2.2.1 = s.2.2.2.2.2.2.1 := by rw [e1]; rfl
                                refine e_iload_n (i := 1) 150 dX12_readFact_149 rfl rfl rfl ?_
                                refine e_bipush 152 dX12_readFact_150 (by decide) rfl ?_
                                refine e_icmp_ne 155 159 dX12_readFact_152 (by omega) (by decide) (by decide) rfl (fun b152 => ?_) (fun b152 => ?_)
                                · first
                                   | (exfalso; omega)
                                   | (skip
                                      refine e_iload_n (i := 1) 160 dX12_readFact_159 rfl rfl rfl ?_
                                      refine e_bipush 162 dX12_readFact_160 (by decide) rfl ?_
                                      refine e_icmp_ne 165 175 dX12_readFact_162 (by omega) (by decide) (by decide) rfl (fun b162 => ?_) (fun b162 => ?_)
                                      · first
                                         | (exfalso; omega)
                                         | (skip
                                            refine e_iload_n (i := 1) 176 dX12_readFact_175 rfl rfl rfl ?_
                                            refine e_bipush 178 dX12_readFact_176 (by decide) rfl ?_
                                            refine e_icmp_ne 181 191 dX12_readFact_178 (by omega) (by decide) (by decide) rfl (fun b178 => ?_) (fun b178 => ?_)
                                            · first
                                               | (exfalso; omega)
                                               | (skip
                                                  refine e_iload_n (i := 1) 192 dX12_readFact_191 rfl rfl rfl ?_
                                                  refine e_bipush 194 dX12_readFact_192 (by decide) rfl ?_
                                                  refine e_icmp_ne 197 208 dX12_readFact_194 (by omega) (by decide) (by decide) rfl (fun b194 => ?_) (fun b194 => ?_)
                                                  · first
                                                     | (exfalso; omega)
                                                     | (skip
                                                        refine e_iload_n (i := 1) 209 dX12_readFact_208 rfl rfl rfl ?_
                                                        refine e_bipush 211 dX12_readFact_209 (by decide) rfl ?_
                                                        refine e_icmp_ne 214 225 dX12_readFact_211 (by omega) (by decide) (by decide) rfl (fun b211 => ?_) (fun b211 => ?_)
                                                        · first
                                                           | (exfalso; omega)
                                                           | (skip
                                                              refine e_aload_n (i := 0) 226 dX12_readFact_225 rfl rfl rfl ?_
                                                              refine e_iconst 227 dX12_readFact_226 rfl ?_
                                                              refine e_bipush 229 dX12_readFact_227 (by decide) rfl ?_
                                                              refine e_callV 232 mt_yX12_reads mv_yX12_reads wd_1430 (by decide) dX12_readFact_229 at_928 jc_12 rfl rfl rfl (Nat.le_of_ble_eq_true rfl) (jroom (by omega)) rfl (m_reads hT (by (try simp (disch := omega) only [put_r6, put_w6, put_r7, put_w7, put_r9, put_w9, put_r10, put_w10, put_r11, put_w11, put_r12, put_w12, put_r13, put_w13, put_r14, put_w14, put_r15, put_w15, put_ra, put_r8, put_r0, put_rt, put_wa, u1, u2, hn8]); omega) (by (try simp (disch := omega) only [put_r6, put_w6, put_r7, put_w7, put_r9, put_w9, put_r10, put_w10, put_r11, put_w11, put_r12, put_w12, put_r13, put_w13, put_r14, put_w14, put_r15, put_w15, put_ra, put_r8, put_r0, put_rt, put_wa, u1, u2, hn8]); omega) (by (try simp (disch := omega) only [put_r6, put_w6, put_r7, put_w7, put_r9, put_w9, put_r10, put_w10, put_r11, put_w11, put_r12, put_w12, put_r13, put_w13, put_r14, put_w14, put_r15, put_w15, put_ra, put_r8, put_r0, put_rt, put_wa, u1, u2, hn8]); omega) ?_)
                                                              dsimp only [jpush]
                                                              (try simp (disch := omega) only [put_r6, put_w6, put_r7, put_w7, put_r9, put_w9, put_r10, put_w10, put_r11, put_w11, put_r12, put_w12, put_r13, put_w13, put_r14, put_w14, put_r15, put_w15, put_ra, put_r8, put_r0, put_rt, put_wa, u1, u2, hn8])
                                                              obtain ⟨s2, e2⟩ : ∃ z, z = pAt2 (M 931) n s := ⟨_, rfl⟩
                                                              have hk3 : s.2.2.1 = 19 := by omega
                                                              have g2 : pRead (M 931) n 0 15 s1 = s2 := by
                                                                rw [e2, pAt2, if_neg (by omega), hk3, ← e1]
                                                                rfl
                                                              rw [g2]
                                                              have k2 := pk_read (lo := 0) (hi := 15) hT k1.1.1
                                                              rw [g2] at k2
                                                              have t2 := k2.1.2.2.2.2.1
                                                              have i2 := k2.1.1
                                                              refine e_istore_n (i := 2) (lsn := [(2, _), (1, _), (0, _)]) 233 dX12_readFact_232 rfl (by decide) rfl rfl ?_
                                                              refine e_aload_n (i := 0) 234 dX12_readFact_233 rfl rfl rfl ?_
                                                              refine e_geti (j := 11) 237 fl_12_123 dX12_readFact_234 at_928 (by decide) rfl rfl (fun r234 => ?_)
                                                              simp (disch := omega) only [put_r6, put_w6, put_r7, put_w7, put_r9, put_w9, put_r10, put_w10, put_r11, put_w11, put_r12, put_w12, put_r13, put_w13, put_r14, put_w14, put_r15, put_w15, put_ra, put_r8, put_r0, put_rt, put_wa, u1, u2, hn8] at r234 ⊢
                                                              refine e_if_ne 240 246 dX12_readFact_237 (by omega) (by decide) rfl (fun b237 => ?_) (fun b237 => ?_)
                                                              · first
                                                                 | (exfalso; omega)
                                                                 | (skip
                                                                    refine e_vret dX12_readFact_246 ?_
                                                                    first
                                                                      | (exfalso; omega)
                                                                      | (rw [prs, if_pos rfl, if_neg (by omega), if_neg hk, if_neg hk2, pAtom, if_pos (by omega), ← e2, if_neg (by omega)] at h
                                                                         exact h))
                                                              · first
                                                                 | (exfalso; omega)
                                                                 | (skip
                                                                    refine e_aload_n (i := 0) 241 dX12_readFact_240 rfl rfl rfl ?_
                                                                    refine e_iload_n (i := 1) 242 dX12_readFact_241 rfl rfl rfl ?_
                                                                    refine e_iload_n (i := 2) 243 dX12_readFact_242 rfl rfl rfl ?_
                                                                    refine e_callV 246 mt_yX12_emit mv_yX12_emit wd_1464 (by decide) dX12_readFact_243 at_928 jc_12 rfl rfl rfl (Nat.le_of_ble_eq_true rfl) (jroom (by omega)) rfl (m_emit (by (try simp (disch := omega) only [put_r6, put_w6, put_r7, put_w7, put_r9, put_w9, put_r10, put_w10, put_r11, put_w11, put_r12, put_w12, put_r13, put_w13, put_r14, put_w14, put_r15, put_w15, put_ra, put_r8, put_r0, put_rt, put_wa, u1, u2, hn8]); omega) (by (try simp (disch := omega) only [put_r6, put_w6, put_r7, put_w7, put_r9, put_w9, put_r10, put_w10, put_r11, put_w11, put_r12, put_w12, put_r13, put_w13, put_r14, put_w14, put_r15, put_w15, put_ra, put_r8, put_r0, put_rt, put_wa, u1, u2, hn8]); omega) (by (try simp (disch := omega) only [put_r6, put_w6, put_r7, put_w7, put_r9, put_w9, put_r10, put_w10, put_r11, put_w11, put_r12, put_w12, put_r13, put_w13, put_r14, put_w14, put_r15, put_w15, put_ra, put_r8, put_r0, put_rt, put_wa, u1, u2, hn8]); omega) ?_)
                                                                    dsimp only [jpush]
                                                                    (try simp (disch := omega) only [put_r6, put_w6, put_r7, put_w7, put_r9, put_w9, put_r10, put_w10, put_r11, put_w11, put_r12, put_w12, put_r13, put_w13, put_r14, put_w14, put_r15, put_w15, put_ra, put_r8, put_r0, put_rt, put_wa, u1, u2, hn8])
                                                                    refine e_vret dX12_readFact_246 ?_
                                                                    first
                                                                      | (exfalso; omega)
                                                                      | (rw [prs, if_pos rfl, if_neg (by omega), if_neg hk, if_neg hk2, pAtom, if_pos (by omega), ← e2, if_pos (by omega), if_neg (by omega), ← e1] at h
                                                                         exact h)))
                                                        · first
                                                           | (exfalso; omega)
                                                           | (skip
                                                              refine e_aload_n (i := 0) 215 dX12_readFact_214 rfl rfl rfl ?_
                                                              refine e_iconst 216 dX12_readFact_215 rfl ?_
                                                              refine e_sipush 219 dX12_readFact_216 (by decide) rfl ?_
                                                              refine e_callV 222 mt_yX12_reads mv_yX12_reads wd_1430 (by decide) dX12_readFact_219 at_928 jc_12 rfl rfl rfl (Nat.le_of_ble_eq_true rfl) (jroom (by omega)) rfl (m_reads hT (by (try simp (disch := omega) only [put_r6, put_w6, put_r7, put_w7, put_r9, put_w9, put_r10, put_w10, put_r11, put_w11, put_r12, put_w12, put_r13, put_w13, put_r14, put_w14, put_r15, put_w15, put_ra, put_r8, put_r0, put_rt, put_wa, u1, u2, hn8]); omega) (by (try simp (disch := omega) only [put_r6, put_w6, put_r7, put_w7, put_r9, put_w9, put_r10, put_w10, put_r11, put_w11, put_r12, put_w12, put_r13, put_w13, put_r14, put_w14, put_r15, put_w15, put_ra, put_r8, put_r0, put_rt, put_wa, u1, u2, hn8]); omega) (by (try simp (disch := omega) only [put_r6, put_w6, put_r7, put_w7, put_r9, put_w9, put_r10, put_w10, put_r11, put_w11, put_r12, put_w12, put_r13, put_w13, put_r14, put_w14, put_r15, put_w15, put_ra, put_r8, put_r0, put_rt, put_wa, u1, u2, hn8]); omega) ?_)
                                                              dsimp only [jpush]
                                                              (try simp (disch := omega) only [put_r6, put_w6, put_r7, put_w7, put_r9, put_w9, put_r10, put_w10, put_r11, put_w11, put_r12, put_w12, put_r13, put_w13, put_r14, put_w14, put_r15, put_w15, put_ra, put_r8, put_r0, put_rt, put_wa, u1, u2, hn8])
                                                              obtain ⟨s2, e2⟩ : ∃ z, z = pAt2 (M 931) n s := ⟨_, rfl⟩
                                                              have hk3 : s.2.2.1 = 18 := by omega
                                                              have g2 : pRead (M 931) n 0 300 s1 = s2 := by
                                                                rw [e2, pAt2, if_neg (by omega), hk3, ← e1]
                                                                rfl
                                                              rw [g2]
                                                              have k2 := pk_read (lo := 0) (hi := 300) hT k1.1.1
                                                              rw [g2] at k2
                                                              have t2 := k2.1.2.2.2.2.1
                                                              have i2 := k2.1.1
                                                              refine e_goto 232 dX12_readFact_222 (by decide) ?_
                                                              refine e_istore_n (i := 2) (lsn := [(2, _), (1, _), (0, _)]) 233 dX12_readFact_232 rfl (by decide) rfl rfl ?_
                                                              refine e_aload_n (i := 0) 234 dX12_readFact_233 rfl rfl rfl ?_
                                                              refine e_geti (j := 11) 237 fl_12_123 dX12_readFact_234 at_928 (by decide) rfl rfl (fun r234 => ?_)
                                                              simp (disch := omega) only [put_r6, put_w6, put_r7, put_w7, put_r9, put_w9, put_r10, put_w10, put_r11, put_w11, put_r12, put_w12, put_r13, put_w13, put_r14, put_w14, put_r15, put_w15, put_ra, put_r8, put_r0, put_rt, put_wa, u1, u2, hn8] at r234 ⊢
                                                              refine e_if_ne 240 246 dX12_readFact_237 (by omega) (by decide) rfl (fun b237 => ?_) (fun b237 => ?_)
                                                              · first
                                                                 | (exfalso; omega)
                                                                 | (skip
                                                                    refine e_vret dX12_readFact_246 ?_
                                                                    first
                                                                      | (exfalso; omega)
                                                                      | (rw [prs, if_pos rfl, if_neg (by omega), if_neg hk, if_neg hk2, pAtom, if_pos (by omega), ← e2, if_neg (by omega)] at h
                                                                         exact h))
                                                              · first
                                                                 | (exfalso; omega)
                                                                 | (skip
                                                                    refine e_aload_n (i := 0) 241 dX12_readFact_240 rfl rfl rfl ?_
                                                                    refine e_iload_n (i := 1) 242 dX12_readFact_241 rfl rfl rfl ?_
                                                                    refine e_iload_n (i := 2) 243 dX12_readFact_242 rfl rfl rfl ?_
                                                                    refine e_callV 246 mt_yX12_emit mv_yX12_emit wd_1464 (by decide) dX12_readFact_243 at_928 jc_12 rfl rfl rfl (Nat.le_of_ble_eq_true rfl) (jroom (by omega)) rfl (m_emit (by (try simp (disch := omega) only [put_r6, put_w6, put_r7, put_w7, put_r9, put_w9, put_r10, put_w10, put_r11, put_w11, put_r12, put_w12, put_r13, put_w13, put_r14, put_w14, put_r15, put_w15, put_ra, put_r8, put_r0, put_rt, put_wa, u1, u2, hn8]); omega) (by (try simp (disch := omega) only [put_r6, put_w6, put_r7, put_w7, put_r9, put_w9, put_r10, put_w10, put_r11, put_w11, put_r12, put_w12, put_r13, put_w13, put_r14, put_w14, put_r15, put_w15, put_ra, put_r8, put_r0, put_rt, put_wa, u1, u2, hn8]); omega) (by (try simp (disch := omega) only [put_r6, put_w6, put_r7, put_w7, put_r9, put_w9, put_r10, put_w10, put_r11, put_w11, put_r12, put_w12, put_r13, put_w13, put_r14, put_w14, put_r15, put_w15, put_ra, put_r8, put_r0, put_rt, put_wa, u1, u2, hn8]); omega) ?_)
                                                                    dsimp only [jpush]
                                                                    (try simp (disch := omega) only [put_r6, put_w6, put_r7, put_w7, put_r9, put_w9, put_r10, put_w10, put_r11, put_w11, put_r12, put_w12, put_r13, put_w13, put_r14, put_w14, put_r15, put_w15, put_ra, put_r8, put_r0, put_rt, put_wa, u1, u2, hn8])
                                                                    refine e_vret dX12_readFact_246 ?_
                                                                    first
                                                                      | (exfalso; omega)
                                                                      | (rw [prs, if_pos rfl, if_neg (by omega), if_neg hk, if_neg hk2, pAtom, if_pos (by omega), ← e2, if_pos (by omega), if_neg (by omega), ← e1] at h
                                                                         exact h))))
                                                  · first
                                                     | (exfalso; omega)
                                                     | (skip
                                                        refine e_aload_n (i := 0) 198 dX12_readFact_197 rfl rfl rfl ?_
                                                        refine e_iconst 199 dX12_readFact_198 rfl ?_
                                                        refine e_sipush 202 dX12_readFact_199 (by decide) rfl ?_
                                                        refine e_callV 205 mt_yX12_reads mv_yX12_reads wd_1430 (by decide) dX12_readFact_202 at_928 jc_12 rfl rfl rfl (Nat.le_of_ble_eq_true rfl) (jroom (by omega)) rfl (m_reads hT (by (try simp (disch := omega) only [put_r6, put_w6, put_r7, put_w7, put_r9, put_w9, put_r10, put_w10, put_r11, put_w11, put_r12, put_w12, put_r13, put_w13, put_r14, put_w14, put_r15, put_w15, put_ra, put_r8, put_r0, put_rt, put_wa, u1, u2, hn8]); omega) (by (try simp (disch := omega) only [put_r6, put_w6, put_r7, put_w7, put_r9, put_w9, put_r10, put_w10, put_r11, put_w11, put_r12, put_w12, put_r13, put_w13, put_r14, put_w14, put_r15, put_w15, put_ra, put_r8, put_r0, put_rt, put_wa, u1, u2, hn8]); omega) (by (try simp (disch := omega) only [put_r6, put_w6, put_r7, put_w7, put_r9, put_w9, put_r10, put_w10, put_r11, put_w11, put_r12, put_w12, put_r13, put_w13, put_r14, put_w14, put_r15, put_w15, put_ra, put_r8, put_r0, put_rt, put_wa, u1, u2, hn8]); omega) ?_)
                                                        dsimp only [jpush]
                                                        (try simp (disch := omega) only [put_r6, put_w6, put_r7, put_w7, put_r9, put_w9, put_r10, put_w10, put_r11, put_w11, put_r12, put_w12, put_r13, put_w13, put_r14, put_w14, put_r15, put_w15, put_ra, put_r8, put_r0, put_rt, put_wa, u1, u2, hn8])
                                                        obtain ⟨s2, e2⟩ : ∃ z, z = pAt2 (M 931) n s := ⟨_, rfl⟩
                                                        have hk3 : s.2.2.1 = 17 := by omega
                                                        have g2 : pRead (M 931) n 0 999 s1 = s2 := by
                                                          rw [e2, pAt2, if_neg (by omega), hk3, ← e1]
                                                          rfl
                                                        rw [g2]
                                                        have k2 := pk_read (lo := 0) (hi := 999) hT k1.1.1
                                                        rw [g2] at k2
                                                        have t2 := k2.1.2.2.2.2.1
                                                        have i2 := k2.1.1
                                                        refine e_goto 232 dX12_readFact_205 (by decide) ?_
                                                        refine e_istore_n (i := 2) (lsn := [(2, _), (1, _), (0, _)]) 233 dX12_readFact_232 rfl (by decide) rfl rfl ?_
                                                        refine e_aload_n (i := 0) 234 dX12_readFact_233 rfl rfl rfl ?_
                                                        refine e_geti (j := 11) 237 fl_12_123 dX12_readFact_234 at_928 (by decide) rfl rfl (fun r234 => ?_)
                                                        simp (disch := omega) only [put_r6, put_w6, put_r7, put_w7, put_r9, put_w9, put_r10, put_w10, put_r11, put_w11, put_r12, put_w12, put_r13, put_w13, put_r14, put_w14, put_r15, put_w15, put_ra, put_r8, put_r0, put_rt, put_wa, u1, u2, hn8] at r234 ⊢
                                                        refine e_if_ne 240 246 dX12_readFact_237 (by omega) (by decide) rfl (fun b237 => ?_) (fun b237 => ?_)
                                                        · first
                                                           | (exfalso; omega)
                                                           | (skip
                                                              refine e_vret dX12_readFact_246 ?_
                                                              first
                                                                | (exfalso; omega)
                                                                | (rw [prs, if_pos rfl, if_neg (by omega), if_neg hk, if_neg hk2, pAtom, if_pos (by omega), ← e2, if_neg (by omega)] at h
                                                                   exact h))
                                                        · first
                                                           | (exfalso; omega)
                                                           | (skip
                                                              refine e_aload_n (i := 0) 241 dX12_readFact_240 rfl rfl rfl ?_
                                                              refine e_iload_n (i := 1) 242 dX12_readFact_241 rfl rfl rfl ?_
                                                              refine e_iload_n (i := 2) 243 dX12_readFact_242 rfl rfl rfl ?_
                                                              refine e_callV 246 mt_yX12_emit mv_yX12_emit wd_1464 (by decide) dX12_readFact_243 at_928 jc_12 rfl rfl rfl (Nat.le_of_ble_eq_true rfl) (jroom (by omega)) rfl (m_emit (by (try simp (disch := omega) only [put_r6, put_w6, put_r7, put_w7, put_r9, put_w9, put_r10, put_w10, put_r11, put_w11, put_r12, put_w12, put_r13, put_w13, put_r14, put_w14, put_r15, put_w15, put_ra, put_r8, put_r0, put_rt, put_wa, u1, u2, hn8]); omega) (by (try simp (disch := omega) only [put_r6, put_w6, put_r7, put_w7, put_r9, put_w9, put_r10, put_w10, put_r11, put_w11, put_r12, put_w12, put_r13, put_w13, put_r14, put_w14, put_r15, put_w15, put_ra, put_r8, put_r0, put_rt, put_wa, u1, u2, hn8]); omega) (by (try simp (disch := omega) only [put_r6, put_w6, put_r7, put_w7, put_r9, put_w9, put_r10, put_w10, put_r11, put_w11, put_r12, put_w12, put_r13, put_w13, put_r14, put_w14, put_r15, put_w15, put_ra, put_r8, put_r0, put_rt, put_wa, u1, u2, hn8]); omega) ?_)
                                                              dsimp only [jpush]
                                                              (try simp (disch := omega) only [put_r6, put_w6, put_r7, put_w7, put_r9, put_w9, put_r10, put_w10, put_r11, put_w11, put_r12, put_w12, put_r13, put_w13, put_r14, put_w14, put_r15, put_w15, put_ra, put_r8, put_r0, put_rt, put_wa, u1, u2, hn8])
                                                              refine e_vret dX12_readFact_246 ?_
                                                              first
                                                                | (exfalso; omega)
                                                                | (rw [prs, if_pos rfl, if_neg (by omega), if_neg hk, if_neg hk2, pAtom, if_pos (by omega), ← e2, if_pos (by omega), if_neg (by omega), ← e1] at h
                                                                   exact h))))
                                            · first
                                               | (exfalso; omega)
                                               | (skip
                                                  refine e_aload_n (i := 0) 182 dX12_readFact_181 rfl rfl rfl ?_
                                                  refine e_iconst 183 dX12_readFact_182 rfl ?_
                                                  refine e_bipush 185 dX12_readFact_183 (by decide) rfl ?_
                                                  refine e_callV 188 mt_yX12_reads mv_yX12_reads wd_1430 (by decide) dX12_readFact_185 at_928 jc_12 rfl rfl rfl (Nat.le_of_ble_eq_true rfl) (jroom (by omega)) rfl (m_reads hT (by (try simp (disch := omega) only [put_r6, put_w6, put_r7, put_w7, put_r9, put_w9, put_r10, put_w10, put_r11, put_w11, put_r12, put_w12, put_r13, put_w13, put_r14, put_w14, put_r15, put_w15, put_ra, put_r8, put_r0, put_rt, put_wa, u1, u2, hn8]); omega) (by (try simp (disch := omega) only [put_r6, put_w6, put_r7, put_w7, put_r9, put_w9, put_r10, put_w10, put_r11, put_w11, put_r12, put_w12, put_r13, put_w13, put_r14, put_w14, put_r15, put_w15, put_ra, put_r8, put_r0, put_rt, put_wa, u1, u2, hn8]); omega) (by (try simp (disch := omega) only [put_r6, put_w6, put_r7, put_w7, put_r9, put_w9, put_r10, put_w10, put_r11, put_w11, put_r12, put_w12, put_r13, put_w13, put_r14, put_w14, put_r15, put_w15, put_ra, put_r8, put_r0, put_rt, put_wa, u1, u2, hn8]); omega) ?_)
                                                  dsimp only [jpush]
                                                  (try simp (disch := omega) only [put_r6, put_w6, put_r7, put_w7, put_r9, put_w9, put_r10, put_w10, put_r11, put_w11, put_r12, put_w12, put_r13, put_w13, put_r14, put_w14, put_r15, put_w15, put_ra, put_r8, put_r0, put_rt, put_wa, u1, u2, hn8])
                                                  obtain ⟨s2, e2⟩ : ∃ z, z = pAt2 (M 931) n s := ⟨_, rfl⟩
                                                  have hk3 : s.2.2.1 = 16 := by omega
                                                  have g2 : pRead (M 931) n 1 9 s1 = s2 := by
                                                    rw [e2, pAt2, if_neg (by omega), hk3, ← e1]
                                                    rfl
                                                  rw [g2]
                                                  have k2 := pk_read (lo := 1) (hi := 9) hT k1.1.1
                                                  rw [g2] at k2
                                                  have t2 := k2.1.2.2.2.2.1
                                                  have i2 := k2.1.1
                                                  refine e_goto 232 dX12_readFact_188 (by decide) ?_
                                                  refine e_istore_n (i := 2) (lsn := [(2, _), (1, _), (0, _)]) 233 dX12_readFact_232 rfl (by decide) rfl rfl ?_
                                                  refine e_aload_n (i := 0) 234 dX12_readFact_233 rfl rfl rfl ?_
                                                  refine e_geti (j := 11) 237 fl_12_123 dX12_readFact_234 at_928 (by decide) rfl rfl (fun r234 => ?_)
                                                  simp (disch := omega) only [put_r6, put_w6, put_r7, put_w7, put_r9, put_w9, put_r10, put_w10, put_r11, put_w11, put_r12, put_w12, put_r13, put_w13, put_r14, put_w14, put_r15, put_w15, put_ra, put_r8, put_r0, put_rt, put_wa, u1, u2, hn8] at r234 ⊢
                                                  refine e_if_ne 240 246 dX12_readFact_237 (by omega) (by decide) rfl (fun b237 => ?_) (fun b237 => ?_)
                                                  · first
                                                     | (exfalso; omega)
                                                     | (skip
                                                        refine e_vret dX12_readFact_246 ?_
                                                        first
                                                          | (exfalso; omega)
                                                          | (rw [prs, if_pos rfl, if_neg (by omega), if_neg hk, if_neg hk2, pAtom, if_pos (by omega), ← e2, if_neg (by omega)] at h
                                                             exact h))
                                                  · first
                                                     | (exfalso; omega)
                                                     | (skip
                                                        refine e_aload_n (i := 0) 241 dX12_readFact_240 rfl rfl rfl ?_
                                                        refine e_iload_n (i := 1) 242 dX12_readFact_241 rfl rfl rfl ?_
                                                        refine e_iload_n (i := 2) 243 dX12_readFact_242 rfl rfl rfl ?_
                                                        refine e_callV 246 mt_yX12_emit mv_yX12_emit wd_1464 (by decide) dX12_readFact_243 at_928 jc_12 rfl rfl rfl (Nat.le_of_ble_eq_true rfl) (jroom (by omega)) rfl (m_emit (by (try simp (disch := omega) only [put_r6, put_w6, put_r7, put_w7, put_r9, put_w9, put_r10, put_w10, put_r11, put_w11, put_r12, put_w12, put_r13, put_w13, put_r14, put_w14, put_r15, put_w15, put_ra, put_r8, put_r0, put_rt, put_wa, u1, u2, hn8]); omega) (by (try simp (disch := omega) only [put_r6, put_w6, put_r7, put_w7, put_r9, put_w9, put_r10, put_w10, put_r11, put_w11, put_r12, put_w12, put_r13, put_w13, put_r14, put_w14, put_r15, put_w15, put_ra, put_r8, put_r0, put_rt, put_wa, u1, u2, hn8]); omega) (by (try simp (disch := omega) only [put_r6, put_w6, put_r7, put_w7, put_r9, put_w9, put_r10, put_w10, put_r11, put_w11, put_r12, put_w12, put_r13, put_w13, put_r14, put_w14, put_r15, put_w15, put_ra, put_r8, put_r0, put_rt, put_wa, u1, u2, hn8]); omega) ?_)
                                                        dsimp only [jpush]
                                                        (try simp (disch := omega) only [put_r6, put_w6, put_r7, put_w7, put_r9, put_w9, put_r10, put_w10, put_r11, put_w11, put_r12, put_w12, put_r13, put_w13, put_r14, put_w14, put_r15, put_w15, put_ra, put_r8, put_r0, put_rt, put_wa, u1, u2, hn8])
                                                        refine e_vret dX12_readFact_246 ?_
                                                        first
                                                          | (exfalso; omega)
                                                          | (rw [prs, if_pos rfl, if_neg (by omega), if_neg hk, if_neg hk2, pAtom, if_pos (by omega), ← e2, if_pos (by omega), if_neg (by omega), ← e1] at h
                                                             exact h))))
                                      · first
                                         | (exfalso; omega)
                                         | (skip
                                            refine e_aload_n (i := 0) 166 dX12_readFact_165 rfl rfl rfl ?_
                                            refine e_iconst 167 dX12_readFact_166 rfl ?_
                                            refine e_bipush 169 dX12_readFact_167 (by decide) rfl ?_
                                            refine e_callV 172 mt_yX12_reads mv_yX12_reads wd_1430 (by decide) dX12_readFact_169 at_928 jc_12 rfl rfl rfl (Nat.le_of_ble_eq_true rfl) (jroom (by omega)) rfl (m_reads hT (by (try simp (disch := omega) only [put_r6, put_w6, put_r7, put_w7, put_r9, put_w9, put_r10, put_w10, put_r11, put_w11, put_r12, put_w12, put_r13, put_w13, put_r14, put_w14, put_r15, put_w15, put_ra, put_r8, put_r0, put_rt, put_wa, u1, u2, hn8]); omega) (by (try simp (disch := omega) only [put_r6, put_w6, put_r7, put_w7, put_r9, put_w9, put_r10, put_w10, put_r11, put_w11, put_r12, put_w12, put_r13, put_w13, put_r14, put_w14, put_r15, put_w15, put_ra, put_r8, put_r0, put_rt, put_wa, u1, u2, hn8]); omega) (by (try simp (disch := omega) only [put_r6, put_w6, put_r7, put_w7, put_r9, put_w9, put_r10, put_w10, put_r11, put_w11, put_r12, put_w12, put_r13, put_w13, put_r14, put_w14, put_r15, put_w15, put_ra, put_r8, put_r0, put_rt, put_wa, u1, u2, hn8]); omega) ?_)
                                            dsimp only [jpush]
                                            (try simp (disch := omega) only [put_r6, put_w6, put_r7, put_w7, put_r9, put_w9, put_r10, put_w10, put_r11, put_w11, put_r12, put_w12, put_r13, put_w13, put_r14, put_w14, put_r15, put_w15, put_ra, put_r8, put_r0, put_rt, put_wa, u1, u2, hn8])
                                            obtain ⟨s2, e2⟩ : ∃ z, z = pAt2 (M 931) n s := ⟨_, rfl⟩
                                            have hk3 : s.2.2.1 = 15 := by omega
                                            have g2 : pRead (M 931) n 0 11 s1 = s2 := by
                                              rw [e2, pAt2, if_neg (by omega), hk3, ← e1]
                                              rfl
                                            rw [g2]
                                            have k2 := pk_read (lo := 0) (hi := 11) hT k1.1.1
                                            rw [g2] at k2
                                            have t2 := k2.1.2.2.2.2.1
                                            have i2 := k2.1.1
                                            refine e_goto 232 dX12_readFact_172 (by decide) ?_
                                            refine e_istore_n (i := 2) (lsn := [(2, _), (1, _), (0, _)]) 233 dX12_readFact_232 rfl (by decide) rfl rfl ?_
                                            refine e_aload_n (i := 0) 234 dX12_readFact_233 rfl rfl rfl ?_
                                            refine e_geti (j := 11) 237 fl_12_123 dX12_readFact_234 at_928 (by decide) rfl rfl (fun r234 => ?_)
                                            simp (disch := omega) only [put_r6, put_w6, put_r7, put_w7, put_r9, put_w9, put_r10, put_w10, put_r11, put_w11, put_r12, put_w12, put_r13, put_w13, put_r14, put_w14, put_r15, put_w15, put_ra, put_r8, put_r0, put_rt, put_wa, u1, u2, hn8] at r234 ⊢
                                            refine e_if_ne 240 246 dX12_readFact_237 (by omega) (by decide) rfl (fun b237 => ?_) (fun b237 => ?_)
                                            · first
                                               | (exfalso; omega)
                                               | (skip
                                                  refine e_vret dX12_readFact_246 ?_
                                                  first
                                                    | (exfalso; omega)
                                                    | (rw [prs, if_pos rfl, if_neg (by omega), if_neg hk, if_neg hk2, pAtom, if_pos (by omega), ← e2, if_neg (by omega)] at h
                                                       exact h))
                                            · first
                                               | (exfalso; omega)
                                               | (skip
                                                  refine e_aload_n (i := 0) 241 dX12_readFact_240 rfl rfl rfl ?_
                                                  refine e_iload_n (i := 1) 242 dX12_readFact_241 rfl rfl rfl ?_
                                                  refine e_iload_n (i := 2) 243 dX12_readFact_242 rfl rfl rfl ?_
                                                  refine e_callV 246 mt_yX12_emit mv_yX12_emit wd_1464 (by decide) dX12_readFact_243 at_928 jc_12 rfl rfl rfl (Nat.le_of_ble_eq_true rfl) (jroom (by omega)) rfl (m_emit (by (try simp (disch := omega) only [put_r6, put_w6, put_r7, put_w7, put_r9, put_w9, put_r10, put_w10, put_r11, put_w11, put_r12, put_w12, put_r13, put_w13, put_r14, put_w14, put_r15, put_w15, put_ra, put_r8, put_r0, put_rt, put_wa, u1, u2, hn8]); omega) (by (try simp (disch := omega) only [put_r6, put_w6, put_r7, put_w7, put_r9, put_w9, put_r10, put_w10, put_r11, put_w11, put_r12, put_w12, put_r13, put_w13, put_r14, put_w14, put_r15, put_w15, put_ra, put_r8, put_r0, put_rt, put_wa, u1, u2, hn8]); omega) (by (try simp (disch := omega) only [put_r6, put_w6, put_r7, put_w7, put_r9, put_w9, put_r10, put_w10, put_r11, put_w11, put_r12, put_w12, put_r13, put_w13, put_r14, put_w14, put_r15, put_w15, put_ra, put_r8, put_r0, put_rt, put_wa, u1, u2, hn8]); omega) ?_)
                                                  dsimp only [jpush]
                                                  (try simp (disch := omega) only [put_r6, put_w6, put_r7, put_w7, put_r9, put_w9, put_r10, put_w10, put_r11, put_w11, put_r12, put_w12, put_r13, put_w13, put_r14, put_w14, put_r15, put_w15, put_ra, put_r8, put_r0, put_rt, put_wa, u1, u2, hn8])
                                                  refine e_vret dX12_readFact_246 ?_
                                                  first
                                                    | (exfalso; omega)
                                                    | (rw [prs, if_pos rfl, if_neg (by omega), if_neg hk, if_neg hk2, pAtom, if_pos (by omega), ← e2, if_pos (by omega), if_neg (by omega), ← e1] at h
                                                       exact h))))
                                · first
                                   | (exfalso; omega)
                                   | (skip
                                      obtain ⟨s2, e2⟩ : ∃ z, z = pAt2 (M 931) n s := ⟨_, rfl⟩
                                      have g2 : s1 = s2 := by
                                        rw [e2, pAt2, if_pos (by omega), ← e1]
                                      rw [g2]
                                      have t2 := k1.1.1.2.2.2.2.1
                                      have i2 := k1.1.1.1
                                      rw [g2] at t2 i2
                                      refine e_iconst 156 dX12_readFact_155 rfl ?_
                                      refine e_goto 232 dX12_readFact_156 (by decide) ?_
                                      refine e_istore_n (i := 2) (lsn := [(2, _), (1, _), (0, _)]) 233 dX12_readFact_232 rfl (by decide) rfl rfl ?_
                                      refine e_aload_n (i := 0) 234 dX12_readFact_233 rfl rfl rfl ?_
                                      refine e_geti (j := 11) 237 fl_12_123 dX12_readFact_234 at_928 (by decide) rfl rfl (fun r234 => ?_)
                                      simp (disch := omega) only [put_r6, put_w6, put_r7, put_w7, put_r9, put_w9, put_r10, put_w10, put_r11, put_w11, put_r12, put_w12, put_r13, put_w13, put_r14, put_w14, put_r15, put_w15, put_ra, put_r8, put_r0, put_rt, put_wa, u1, u2, hn8] at r234 ⊢
                                      refine e_if_ne 240 246 dX12_readFact_237 (by omega) (by decide) rfl (fun b237 => ?_) (fun b237 => ?_)
                                      · first
                                         | (exfalso; omega)
                                         | (skip
                                            refine e_vret dX12_readFact_246 ?_
                                            first
                                              | (exfalso; omega)
                                              | (rw [prs, if_pos rfl, if_neg (by omega), if_neg hk, if_neg hk2, pAtom, if_pos (by omega), ← e2, if_neg (by omega)] at h
                                                 exact h))
                                      · first
                                         | (exfalso; omega)
                                         | (skip
                                            refine e_aload_n (i := 0) 241 dX12_readFact_240 rfl rfl rfl ?_
                                            refine e_iload_n (i := 1) 242 dX12_readFact_241 rfl rfl rfl ?_
                                            refine e_iload_n (i := 2) 243 dX12_readFact_242 rfl rfl rfl ?_
                                            refine e_callV 246 mt_yX12_emit mv_yX12_emit wd_1464 (by decide) dX12_readFact_243 at_928 jc_12 rfl rfl rfl (Nat.le_of_ble_eq_true rfl) (jroom (by omega)) rfl (m_emit (by (try simp (disch := omega) only [put_r6, put_w6, put_r7, put_w7, put_r9, put_w9, put_r10, put_w10, put_r11, put_w11, put_r12, put_w12, put_r13, put_w13, put_r14, put_w14, put_r15, put_w15, put_ra, put_r8, put_r0, put_rt, put_wa, u1, u2, hn8]); omega) (by (try simp (disch := omega) only [put_r6, put_w6, put_r7, put_w7, put_r9, put_w9, put_r10, put_w10, put_r11, put_w11, put_r12, put_w12, put_r13, put_w13, put_r14, put_w14, put_r15, put_w15, put_ra, put_r8, put_r0, put_rt, put_wa, u1, u2, hn8]); omega) (by (try simp (disch := omega) only [put_r6, put_w6, put_r7, put_w7, put_r9, put_w9, put_r10, put_w10, put_r11, put_w11, put_r12, put_w12, put_r13, put_w13, put_r14, put_w14, put_r15, put_w15, put_ra, put_r8, put_r0, put_rt, put_wa, u1, u2, hn8]); omega) ?_)
                                            dsimp only [jpush]
                                            (try simp (disch := omega) only [put_r6, put_w6, put_r7, put_w7, put_r9, put_w9, put_r10, put_w10, put_r11, put_w11, put_r12, put_w12, put_r13, put_w13, put_r14, put_w14, put_r15, put_w15, put_ra, put_r8, put_r0, put_rt, put_wa, u1, u2, hn8])
                                            refine e_vret dX12_readFact_246 ?_
                                            first
                                              | (exfalso; omega)
                                              | (rw [prs, if_pos rfl, if_neg (by omega), if_neg hk, if_neg hk2, pAtom, if_pos (by omega), ← e2, if_pos (by omega), if_pos (by omega)] at h
                                                 exact h))))
                          · first
                             | (exfalso; omega)
                             | (skip
                                refine e_vret dX12_readFact_144 ?_
                                first
                                  | (exfalso; omega)
                                  | (rw [prs, if_pos rfl, if_neg (by omega), if_neg hk, if_neg hk2, pAtom, if_neg (by omega)] at h
                                     exact h)))
                    · dsimp only [jpush]
                      (try simp (disch := omega) only [put_r6, put_w6, put_r7, put_w7, put_r9, put_w9, put_r10, put_w10, put_r11, put_w11, put_r12, put_w12, put_r13, put_w13, put_r14, put_w14, put_r15, put_w15, put_ra, put_r8, put_r0, put_rt, put_wa, u1, u2, hn8] at w126)
                      (try simp (disch := omega) only [put_r6, put_w6, put_r7, put_w7, put_r9, put_w9, put_r10, put_w10, put_r11, put_w11, put_r12, put_w12, put_r13, put_w13, put_r14, put_w14, put_r15, put_w15, put_ra, put_r8, put_r0, put_rt, put_wa, u1, u2, hn8])
                      first
                       | (exfalso; omega)
                       | (skip
                          refine e_if_ne 132 137 dX12_readFact_129 (by decide) (by decide) rfl (fun h => absurd h (by decide)) (fun _ => ?_)
                          refine e_aload_n (i := 0) 133 dX12_readFact_132 rfl rfl rfl ?_
                          refine e_iconst 134 dX12_readFact_133 rfl ?_
                          refine e_callV 137 mt_yX12_fails mv_yX12_fails wd_1426 (by decide) dX12_readFact_134 at_928 jc_12 rfl rfl rfl (Nat.le_of_ble_eq_true rfl) (jroom (by omega)) rfl (m_fails (by (try simp (disch := omega) only [put_r6, put_w6, put_r7, put_w7, put_r9, put_w9, put_r10, put_w10, put_r11, put_w11, put_r12, put_w12, put_r13, put_w13, put_r14, put_w14, put_r15, put_w15, put_ra, put_r8, put_r0, put_rt, put_wa, u1, u2, hn8]); omega) ?_)
                          dsimp only [jpush]
                          (try simp (disch := omega) only [put_r6, put_w6, put_r7, put_w7, put_r9, put_w9, put_r10, put_w10, put_r11, put_w11, put_r12, put_w12, put_r13, put_w13, put_r14, put_w14, put_r15, put_w15, put_ra, put_r8, put_r0, put_rt, put_wa, u1, u2, hn8])
                          refine e_aload_n (i := 0) 138 dX12_readFact_137 rfl rfl rfl ?_
                          refine e_geti (j := 11) 141 fl_12_123 dX12_readFact_138 at_928 (by decide) rfl rfl (fun r138 => ?_)
                          simp (disch := omega) only [put_r6, put_w6, put_r7, put_w7, put_r9, put_w9, put_r10, put_w10, put_r11, put_w11, put_r12, put_w12, put_r13, put_w13, put_r14, put_w14, put_r15, put_w15, put_ra, put_r8, put_r0, put_rt, put_wa, u1, u2, hn8] at r138 ⊢
                          refine e_if_eq 144 145 dX12_readFact_141 (by omega) (by decide) rfl (fun b141 => ?_) (fun b141 => ?_)
                          · first
                             | (exfalso; omega)
                             | (skip
                                refine e_aload_n (i := 0) 146 dX12_readFact_145 rfl rfl rfl ?_
                                refine e_callV 149 mt_yX12_next mv_yX12_next wd_1393 (by decide) dX12_readFact_146 at_928 jc_12 rfl rfl rfl (Nat.le_of_ble_eq_true rfl) (jroom (by omega)) rfl (m_next hT (by (try simp (disch := omega) only [put_r6, put_w6, put_r7, put_w7, put_r9, put_w9, put_r10, put_w10, put_r11, put_w11, put_r12, put_w12, put_r13, put_w13, put_r14, put_w14, put_r15, put_w15, put_ra, put_r8, put_r0, put_rt, put_wa, u1, u2, hn8]); omega) ?_)
                                dsimp only [jpush]
                                (try simp (disch := omega) only [put_r6, put_w6, put_r7, put_w7, put_r9, put_w9, put_r10, put_w10, put_r11, put_w11, put_r12, put_w12, put_r13, put_w13, put_r14, put_w14, put_r15, put_w15, put_ra, put_r8, put_r0, put_rt, put_wa, u1, u2, hn8])
                                obtain ⟨s1, e1⟩ : ∃ z, z = pNext (M 931) n s := ⟨_, rfl⟩
                                rw [← e1]
                                have k1 := pk_next hT hI (by omega)
                                rw [← e1] at k1
                                have q1 := k1.1.1.rng
                                have v1 := k1.1.1.2.2.1
                                have l1 := k1.2
                                have d1 : s1.2.2.2.2.2.2.1 = s.2.2.2.2.2.2.1 := by rw [e1]; rfl
                                refine e_iload_n (i := 1) 150 dX12_readFact_149 rfl rfl rfl ?_
                                refine e_bipush 152 dX12_readFact_150 (by decide) rfl ?_
                                refine e_icmp_ne 155 159 dX12_readFact_152 (by omega) (by decide) (by decide) rfl (fun b152 => ?_) (fun b152 => ?_)
                                · first
                                   | (exfalso; omega)
                                   | (skip
                                      refine e_iload_n (i := 1) 160 dX12_readFact_159 rfl rfl rfl ?_
                                      refine e_bipush 162 dX12_readFact_160 (by decide) rfl ?_
                                      refine e_icmp_ne 165 175 dX12_readFact_162 (by omega) (by decide) (by decide) rfl (fun b162 => ?_) (fun b162 => ?_)
                                      · first
                                         | (exfalso; omega)
                                         | (skip
                                            refine e_iload_n (i := 1) 176 dX12_readFact_175 rfl rfl rfl ?_
                                            refine e_bipush 178 dX12_readFact_176 (by decide) rfl ?_
                                            refine e_icmp_ne 181 191 dX12_readFact_178 (by omega) (by decide) (by decide) rfl (fun b178 => ?_) (fun b178 => ?_)
                                            · first
                                               | (exfalso; omega)
                                               | (skip
                                                  refine e_iload_n (i := 1) 192 dX12_readFact_191 rfl rfl rfl ?_
                                                  refine e_bipush 194 dX12_readFact_192 (by decide) rfl ?_
                                                  refine e_icmp_ne 197 208 dX12_readFact_194 (by omega) (by decide) (by decide) rfl (fun b194 => ?_) (fun b194 => ?_)
                                                  · first
                                                     | (exfalso; omega)
                                                     | (skip
                                                        refine e_iload_n (i := 1) 209 dX12_readFact_208 rfl rfl rfl ?_
                                                        refine e_bipush 211 dX12_readFact_209 (by decide) rfl ?_
                                                        refine e_icmp_ne 214 225 dX12_readFact_211 (by omega) (by decide) (by decide) rfl (fun b211 => ?_) (fun b211 => ?_)
                                                        · first
                                                           | (exfalso; omega)
                                                           | (skip
                                                              refine e_aload_n (i := 0) 226 dX12_readFact_225 rfl rfl rfl ?_
                                                              refine e_iconst 227 dX12_readFact_226 rfl ?_
                                                              refine e_bipush 229 dX12_readFact_227 (by decide) rfl ?_
                                                              refine e_callV 232 mt_yX12_reads mv_yX12_reads wd_1430 (by decide) dX12_readFact_229 at_928 jc_12 rfl rfl rfl (Nat.le_of_ble_eq_true rfl) (jroom (by omega)) rfl (m_reads hT (by (try simp (disch := omega) only [put_r6, put_w6, put_r7, put_w7, put_r9, put_w9, put_r10, put_w10, put_r11, put_w11, put_r12, put_w12, put_r13, put_w13, put_r14, put_w14, put_r15, put_w15, put_ra, put_r8, put_r0, put_rt, put_wa, u1, u2, hn8]); omega) (by (try simp (disch := omega) only [put_r6, put_w6, put_r7, put_w7, put_r9, put_w9, put_r10, put_w10, put_r11, put_w11, put_r12, put_w12, put_r13, put_w13, put_r14, put_w14, put_r15, put_w15, put_ra, put_r8, put_r0, put_rt, put_wa, u1, u2, hn8]); omega) (by (try simp (disch := omega) only [put_r6, put_w6, put_r7, put_w7, put_r9, put_w9, put_r10, put_w10, put_r11, put_w11, put_r12, put_w12, put_r13, put_w13, put_r14, put_w14, put_r15, put_w15, put_ra, put_r8, put_r0, put_rt, put_wa, u1, u2, hn8]); omega) ?_)
                                                              dsimp only [jpush]
                                                              (try simp (disch := omega) only [put_r6, put_w6, put_r7, put_w7, put_r9, put_w9, put_r10, put_w10, put_r11, put_w11, put_r12, put_w12, put_r13, put_w13, put_r14, put_w14, put_r15, put_w15, put_ra, put_r8, put_r0, put_rt, put_wa, u1, u2, hn8])
                                                              obtain ⟨s2, e2⟩ : ∃ z, z = pAt2 (M 931) n s := ⟨_, rfl⟩
                                                              have hk3 : s.2.2.1 = 19 := by omega
                                                              have g2 : pRead (M 931) n 0 15 s1 = s2 := by
                                                                rw [e2, pAt2, if_neg (by omega), hk3, ← e1]
                                                                rfl
                                                              rw [g2]
                                                              have k2 := pk_read (lo := 0) (hi := 15) hT k1.1.1
                                                              rw [g2] at k2
                                                              have t2 := k2.1.2.2.2.2.1
                                                              have i2 := k2.1.1
                                                              refine e_istore_n (i := 2) (lsn := [(2, _), (1, _), (0, _)]) 233 dX12_readFact_232 rfl (by decide) rfl rfl ?_
                                                              refine e_aload_n (i := 0) 234 dX12_readFact_233 rfl rfl rfl ?_
                                                              refine e_geti (j := 11) 237 fl_12_123 dX12_readFact_234 at_928 (by decide) rfl rfl (fun r234 => ?_)
                                                              simp (disch := omega) only [put_r6, put_w6, put_r7, put_w7, put_r9, put_w9, put_r10, put_w10, put_r11, put_w11, put_r12, put_w12, put_r13, put_w13, put_r14, put_w14, put_r15, put_w15, put_ra, put_r8, put_r0, put_rt, put_wa, u1, u2, hn8] at r234 ⊢
                                                              refine e_if_ne 240 246 dX12_readFact_237 (by omega) (by decide) rfl (fun b237 => ?_) (fun b237 => ?_)
                                                              · first
                                                                 | (exfalso; omega)
                                                                 | (skip
                                                                    refine e_vret dX12_readFact_246 ?_
                                                                    first
                                                                      | (exfalso; omega)
                                                                      | (rw [prs, if_pos rfl, if_neg (by omega), if_neg hk, if_neg hk2, pAtom, if_pos (by omega), ← e2, if_neg (by omega)] at h
                                                                         exact h))
                                                              · first
                                                                 | (exfalso; omega)
                                                                 | (skip
                                                                    refine e_aload_n (i := 0) 241 dX12_readFact_240 rfl rfl rfl ?_
                                                                    refine e_iload_n (i := 1) 242 dX12_readFact_241 rfl rfl rfl ?_
                                                                    refine e_iload_n (i := 2) 243 dX12_readFact_242 rfl rfl rfl ?_
                                                                    refine e_callV 246 mt_yX12_emit mv_yX12_emit wd_1464 (by decide) dX12_readFact_243 at_928 jc_12 rfl rfl rfl (Nat.le_of_ble_eq_true rfl) (jroom (by omega)) rfl (m_emit (by (try simp (disch := omega) only [put_r6, put_w6, put_r7, put_w7, put_r9, put_w9, put_r10, put_w10, put_r11, put_w11, put_r12, put_w12, put_r13, put_w13, put_r14, put_w14, put_r15, put_w15, put_ra, put_r8, put_r0, put_rt, put_wa, u1, u2, hn8]); omega) (by (try simp (disch := omega) only [put_r6, put_w6, put_r7, put_w7, put_r9, put_w9, put_r10, put_w10, put_r11, put_w11, put_r12, put_w12, put_r13, put_w13, put_r14, put_w14, put_r15, put_w15, put_ra, put_r8, put_r0, put_rt, put_wa, u1, u2, hn8]); omega) (by (try simp (disch := omega) only [put_r6, put_w6, put_r7, put_w7, put_r9, put_w9, put_r10, put_w10, put_r11, put_w11, put_r12, put_w12, put_r13, put_w13, put_r14, put_w14, put_r15, put_w15, put_ra, put_r8, put_r0, put_rt, put_wa, u1, u2, hn8]); omega) ?_)
                                                                    dsimp only [jpush]
                                                                    (try simp (disch := omega) only [put_r6, put_w6, put_r7, put_w7, put_r9, put_w9, put_r10, put_w10, put_r11, put_w11, put_r12, put_w12, put_r13, put_w13, put_r14, put_w14, put_r15, put_w15, put_ra, put_r8, put_r0, put_rt, put_wa, u1, u2, hn8])
                                                                    refine e_vret dX12_readFact_246 ?_
                                                                    first
                                                                      | (exfalso; omega)
                                                                      | (rw [prs, if_pos rfl, if_neg (by omega), if_neg hk, if_neg hk2, pAtom, if_pos (by omega), ← e2, if_pos (by omega), if_neg (by omega), ← e1] at h
                                                                         exact h)))
                                                        · first
                                                           | (exfalso; omega)
                                                           | (skip
                                                              refine e_aload_n (i := 0) 215 dX12_readFact_214 rfl rfl rfl ?_
                                                              refine e_iconst 216 dX12_readFact_215 rfl ?_
                                                              refine e_sipush 219 dX12_readFact_216 (by decide) rfl ?_
                                                              refine e_callV 222 mt_yX12_reads mv_yX12_reads wd_1430 (by decide) dX12_readFact_219 at_928 jc_12 rfl rfl rfl (Nat.le_of_ble_eq_true rfl) (jroom (by omega)) rfl (m_reads hT (by (try simp (disch := omega) only [put_r6, put_w6, put_r7, put_w7, put_r9, put_w9, put_r10, put_w10, put_r11, put_w11, put_r12, put_w12, put_r13, put_w13, put_r14, put_w14, put_r15, put_w15, put_ra, put_r8, put_r0, put_rt, put_wa, u1, u2, hn8]); omega) (by (try simp (disch := omega) only [put_r6, put_w6, put_r7, put_w7, put_r9, put_w9, put_r10, put_w10, put_r11, put_w11, put_r12, put_w12, put_r13, put_w13, put_r14, put_w14, put_r15, put_w15, put_ra, put_r8, put_r0, put_rt, put_wa, u1, u2, hn8]); omega) (by (try simp (disch := omega) only [put_r6, put_w6, put_r7, put_w7, put_r9, put_w9, put_r10, put_w10, put_r11, put_w11, put_r12, put_w12, put_r13, put_w13, put_r14, put_w14, put_r15, put_w15, put_ra, put_r8, put_r0, put_rt, put_wa, u1, u2, hn8]); omega) ?_)
                                                              dsimp only [jpush]
                                                              (try simp (disch := omega) only [put_r6, put_w6, put_r7, put_w7, put_r9, put_w9, put_r10, put_w10, put_r11, put_w11, put_r12, put_w12, put_r13, put_w13, put_r14, put_w14, put_r15, put_w15, put_ra, put_r8, put_r0, put_rt, put_wa, u1, u2, hn8])
                                                              obtain ⟨s2, e2⟩ : ∃ z, z = pAt2 (M 931) n s := ⟨_, rfl⟩
                                                              have hk3 : s.2.2.1 = 18 := by omega
                                                              have g2 : pRead (M 931) n 0 300 s1 = s2 := by
                                                                rw [e2, pAt2, if_neg (by omega), hk3, ← e1]
                                                                rfl
                                                              rw [g2]
                                                              have k2 := pk_read (lo := 0) (hi := 300) hT k1.1.1
                                                              rw [g2] at k2
                                                              have t2 := k2.1.2.2.2.2.1
                                                              have i2 := k2.1.1
                                                              refine e_goto 232 dX12_readFact_222 (by decide) ?_
                                                              refine e_istore_n (i := 2) (lsn := [(2, _), (1, _), (0, _)]) 233 dX12_readFact_232 rfl (by decide) rfl rfl ?_
                                                              refine e_aload_n (i := 0) 234 dX12_readFact_233 rfl rfl rfl ?_
                                                              refine e_geti (j := 11) 237 fl_12_123 dX12_readFact_234 at_928 (by decide) rfl rfl (fun r234 => ?_)
                                                              simp (disch := omega) only [put_r6, put_w6, put_r7, put_w7, put_r9, put_w9, put_r10, put_w10, put_r11, put_w11, put_r12, put_w12, put_r13, put_w13, put_r14, put_w14, put_r15, put_w15, put_ra, put_r8, put_r0, put_rt, put_wa, u1, u2, hn8] at r234 ⊢
                                                              refine e_if_ne 240 246 dX12_readFact_237 (by omega) (by decide) rfl (fun b237 => ?_) (fun b237 => ?_)
                                                              · first
                                                                 | (exfalso; omega)
                                                                 | (skip
                                                                    refine e_vret dX12_readFact_246 ?_
                                                                    first
                                                                      | (exfalso; omega)
                                                                      | (rw [prs, if_pos rfl, if_neg (by omega), if_neg hk, if_neg hk2, pAtom, if_pos (by omega), ← e2, if_neg (by omega)] at h
                                                                         exact h))
                                                              · first
                                                                 | (exfalso; omega)
                                                                 | (skip
                                                                    refine e_aload_n (i := 0) 241 dX12_readFact_240 rfl rfl rfl ?_
                                                                    refine e_iload_n (i := 1) 242 dX12_readFact_241 rfl rfl rfl ?_
                                                                    refine e_iload_n (i := 2) 243 dX12_readFact_242 rfl rfl rfl ?_
                                                                    refine e_callV 246 mt_yX12_emit mv_yX12_emit wd_1464 (by decide) dX12_readFact_243 at_928 jc_12 rfl rfl rfl (Nat.le_of_ble_eq_true rfl) (jroom (by omega)) rfl (m_emit (by (try simp (disch := omega) only [put_r6, put_w6, put_r7, put_w7, put_r9, put_w9, put_r10, put_w10, put_r11, put_w11, put_r12, put_w12, put_r13, put_w13, put_r14, put_w14, put_r15, put_w15, put_ra, put_r8, put_r0, put_rt, put_wa, u1, u2, hn8]); omega) (by (try simp (disch := omega) only [put_r6, put_w6, put_r7, put_w7, put_r9, put_w9, put_r10, put_w10, put_r11, put_w11, put_r12, put_w12, put_r13, put_w13, put_r14, put_w14, put_r15, put_w15, put_ra, put_r8, put_r0, put_rt, put_wa, u1, u2, hn8]); omega) (by (try simp (disch := omega) only [put_r6, put_w6, put_r7, put_w7, put_r9, put_w9, put_r10, put_w10, put_r11, put_w11, put_r12, put_w12, put_r13, put_w13, put_r14, put_w14, put_r15, put_w15, put_ra, put_r8, put_r0, put_rt, put_wa, u1, u2, hn8]); omega) ?_)
                                                                    dsimp only [jpush]
                                                                    (try simp (disch := omega) only [put_r6, put_w6, put_r7, put_w7, put_r9, put_w9, put_r10, put_w10, put_r11, put_w11, put_r12, put_w12, put_r13, put_w13, put_r14, put_w14, put_r15, put_w15, put_ra, put_r8, put_r0, put_rt, put_wa, u1, u2, hn8])
                                                                    refine e_vret dX12_readFact_246 ?_
                                                                    first
                                                                      | (exfalso; omega)
                                                                      | (rw [prs, if_pos rfl, if_neg (by omega), if_neg hk, if_neg hk2, pAtom, if_pos (by omega), ← e2, if_pos (by omega), if_neg (by omega), ← e1] at h
                                                                         exact h))))
                                                  · first
                                                     | (exfalso; omega)
                                                     | (skip
                                                        refine e_aload_n (i := 0) 198 dX12_readFact_197 rfl rfl rfl ?_
                                                        refine e_iconst 199 dX12_readFact_198 rfl ?_
                                                        refine e_sipush 202 dX12_readFact_199 (by decide) rfl ?_
                                                        refine e_callV 205 mt_yX12_reads mv_yX12_reads wd_1430 (by decide) dX12_readFact_202 at_928 jc_12 rfl rfl rfl (Nat.le_of_ble_eq_true rfl) (jroom (by omega)) rfl (m_reads hT (by (try simp (disch := omega) only [put_r6, put_w6, put_r7, put_w7, put_r9, put_w9, put_r10, put_w10, put_r11, put_w11, put_r12, put_w12, put_r13, put_w13, put_r14, put_w14, put_r15, put_w15, put_ra, put_r8, put_r0, put_rt, put_wa, u1, u2, hn8]); omega) (by (try simp (disch := omega) only [put_r6, put_w6, put_r7, put_w7, put_r9, put_w9, put_r10, put_w10, put_r11, put_w11, put_r12, put_w12, put_r13, put_w13, put_r14, put_w14, put_r15, put_w15, put_ra, put_r8, put_r0, put_rt, put_wa, u1, u2, hn8]); omega) (by (try simp (disch := omega) only [put_r6, put_w6, put_r7, put_w7, put_r9, put_w9, put_r10, put_w10, put_r11, put_w11, put_r12, put_w12, put_r13, put_w13, put_r14, put_w14, put_r15, put_w15, put_ra, put_r8, put_r0, put_rt, put_wa, u1, u2, hn8]); omega) ?_)
                                                        dsimp only [jpush]
                                                        (try simp (disch := omega) only [put_r6, put_w6, put_r7, put_w7, put_r9, put_w9, put_r10, put_w10, put_r11, put_w11, put_r12, put_w12, put_r13, put_w13, put_r14, put_w14, put_r15, put_w15, put_ra, put_r8, put_r0, put_rt, put_wa, u1, u2, hn8])
                                                        obtain ⟨s2, e2⟩ : ∃ z, z = pAt2 (M 931) n s := ⟨_, rfl⟩
                                                        have hk3 : s.2.2.1 = 17 := by omega
                                                        have g2 : pRead (M 931) n 0 999 s1 = s2 := by
                                                          rw [e2, pAt2, if_neg (by omega), hk3, ← e1]
                                                          rfl
                                                        rw [g2]
                                                        have k2 := pk_read (lo := 0) (hi := 999) hT k1.1.1
                                                        rw [g2] at k2
                                                        have t2 := k2.1.2.2.2.2.1
                                                        have i2 := k2.1.1
                                                        refine e_goto 232 dX12_readFact_205 (by decide) ?_
                                                        refine e_istore_n (i := 2) (lsn := [(2, _), (1, _), (0, _)]) 233 dX12_readFact_232 rfl (by decide) rfl rfl ?_
                                                        refine e_aload_n (i := 0) 234 dX12_readFact_233 rfl rfl rfl ?_
                                                        refine e_geti (j := 11) 237 fl_12_123 dX12_readFact_234 at_928 (by decide) rfl rfl (fun r234 => ?_)
                                                        simp (disch := omega) only [put_r6, put_w6, put_r7, put_w7, put_r9, put_w9, put_r10, put_w10, put_r11, put_w11, put_r12, put_w12, put_r13, put_w13, put_r14, put_w14, put_r15, put_w15, put_ra, put_r8, put_r0, put_rt, put_wa, u1, u2, hn8] at r234 ⊢
                                                        refine e_if_ne 240 246 dX12_readFact_237 (by omega) (by decide) rfl (fun b237 => ?_) (fun b237 => ?_)
                                                        · first
                                                           | (exfalso; omega)
                                                           | (skip
                                                              refine e_vret dX12_readFact_246 ?_
                                                              first
                                                                | (exfalso; omega)
                                                                | (rw [prs, if_pos rfl, if_neg (by omega), if_neg hk, if_neg hk2, pAtom, if_pos (by omega), ← e2, if_neg (by omega)] at h
                                                                   exact h))
                                                        · first
                                                           | (exfalso; omega)
                                                           | (skip
                                                              refine e_aload_n (i := 0) 241 dX12_readFact_240 rfl rfl rfl ?_
                                                              refine e_iload_n (i := 1) 242 dX12_readFact_241 rfl rfl rfl ?_
                                                              refine e_iload_n (i := 2) 243 dX12_readFact_242 rfl rfl rfl ?_
                                                              refine e_callV 246 mt_yX12_emit mv_yX12_emit wd_1464 (by decide) dX12_readFact_243 at_928 jc_12 rfl rfl rfl (Nat.le_of_ble_eq_true rfl) (jroom (by omega)) rfl (m_emit (by (try simp (disch := omega) only [put_r6, put_w6, put_r7, put_w7, put_r9, put_w9, put_r10, put_w10, put_r11, put_w11, put_r12, put_w12, put_r13, put_w13, put_r14, put_w14, put_r15, put_w15, put_ra, put_r8, put_r0, put_rt, put_wa, u1, u2, hn8]); omega) (by (try simp (disch := omega) only [put_r6, put_w6, put_r7, put_w7, put_r9, put_w9, put_r10, put_w10, put_r11, put_w11, put_r12, put_w12, put_r13, put_w13, put_r14, put_w14, put_r15, put_w15, put_ra, put_r8, put_r0, put_rt, put_wa, u1, u2, hn8]); omega) (by (try simp (disch := omega) only [put_r6, put_w6, put_r7, put_w7, put_r9, put_w9, put_r10, put_w10, put_r11, put_w11, put_r12, put_w12, put_r13, put_w13, put_r14, put_w14, put_r15, put_w15, put_ra, put_r8, put_r0, put_rt, put_wa, u1, u2, hn8]); omega) ?_)
                                                              dsimp only [jpush]
                                                              (try simp (disch := omega) only [put_r6, put_w6, put_r7, put_w7, put_r9, put_w9, put_r10, put_w10, put_r11, put_w11, put_r12, put_w12, put_r13, put_w13, put_r14, put_w14, put_r15, put_w15, put_ra, put_r8, put_r0, put_rt, put_wa, u1, u2, hn8])
                                                              refine e_vret dX12_readFact_246 ?_
                                                              first
                                                                | (exfalso; omega)
                                                                | (rw [prs, if_pos rfl, if_neg (by omega), if_neg hk, if_neg hk2, pAtom, if_pos (by omega), ← e2, if_pos (by omega), if_neg (by omega), ← e1] at h
                                                                   exact h))))
                                            · first
                                               | (exfalso; omega)
                                               | (skip
                                                  refine e_aload_n (i := 0) 182 dX12_readFact_181 rfl rfl rfl ?_
                                                  refine e_iconst 183 dX12_readFact_182 rfl ?_
                                                  refine e_bipush 185 dX12_readFact_183 (by decide) rfl ?_
                                                  refine e_callV 188 mt_yX12_reads mv_yX12_reads wd_1430 (by decide) dX12_readFact_185 at_928 jc_12 rfl rfl rfl (Nat.le_of_ble_eq_true rfl) (jroom (by omega)) rfl (m_reads hT (by (try simp (disch := omega) only [put_r6, put_w6, put_r7, put_w7, put_r9, put_w9, put_r10, put_w10, put_r11, put_w11, put_r12, put_w12, put_r13, put_w13, put_r14, put_w14, put_r15, put_w15, put_ra, put_r8, put_r0, put_rt, put_wa, u1, u2, hn8]); omega) (by (try simp (disch := omega) only [put_r6, put_w6, put_r7, put_w7, put_r9, put_w9, put_r10, put_w10, put_r11, put_w11, put_r12, put_w12, put_r13, put_w13, put_r14, put_w14, put_r15, put_w15, put_ra, put_r8, put_r0, put_rt, put_wa, u1, u2, hn8]); omega) (by (try simp (disch := omega) only [put_r6, put_w6, put_r7, put_w7, put_r9, put_w9, put_r10, put_w10, put_r11, put_w11, put_r12, put_w12, put_r13, put_w13, put_r14, put_w14, put_r15, put_w15, put_ra, put_r8, put_r0, put_rt, put_wa, u1, u2, hn8]); omega) ?_)
                                                  dsimp only [jpush]
                                                  (try simp (disch := omega) only [put_r6, put_w6, put_r7, put_w7, put_r9, put_w9, put_r10, put_w10, put_r11, put_w11, put_r12, put_w12, put_r13, put_w13, put_r14, put_w14, put_r15, put_w15, put_ra, put_r8, put_r0, put_rt, put_wa, u1, u2, hn8])
                                                  obtain ⟨s2, e2⟩ : ∃ z, z = pAt2 (M 931) n s := ⟨_, rfl⟩
                                                  have hk3 : s.2.2.1 = 16 := by omega
                                                  have g2 : pRead (M 931) n 1 9 s1 = s2 := by
                                                    rw [e2, pAt2, if_neg (by omega), hk3, ← e1]
                                                    rfl
                                                  rw [g2]
                                                  have k2 := pk_read (lo := 1) (hi := 9) hT k1.1.1
                                                  rw [g2] at k2
                                                  have t2 := k2.1.2.2.2.2.1
                                                  have i2 := k2.1.1
                                                  refine e_goto 232 dX12_readFact_188 (by decide) ?_
                                                  refine e_istore_n (i := 2) (lsn := [(2, _), (1, _), (0, _)]) 233 dX12_readFact_232 rfl (by decide) rfl rfl ?_
                                                  refine e_aload_n (i := 0) 234 dX12_readFact_233 rfl rfl rfl ?_
                                                  refine e_geti (j := 11) 237 fl_12_123 dX12_readFact_234 at_928 (by decide) rfl rfl (fun r234 => ?_)
                                                  simp (disch := omega) only [put_r6, put_w6, put_r7, put_w7, put_r9, put_w9, put_r10, put_w10, put_r11, put_w11, put_r12, put_w12, put_r13, put_w13, put_r14, put_w14, put_r15, put_w15, put_ra, put_r8, put_r0, put_rt, put_wa, u1, u2, hn8] at r234 ⊢
                                                  refine e_if_ne 240 246 dX12_readFact_237 (by omega) (by decide) rfl (fun b237 => ?_) (fun b237 => ?_)
                                                  · first
                                                     | (exfalso; omega)
                                                     | (skip
                                                        refine e_vret dX12_readFact_246 ?_
                                                        first
                                                          | (exfalso; omega)
                                                          | (rw [prs, if_pos rfl, if_neg (by omega), if_neg hk, if_neg hk2, pAtom, if_pos (by omega), ← e2, if_neg (by omega)] at h
                                                             exact h))
                                                  · first
                                                     | (exfalso; omega)
                                                     | (skip
                                                        refine e_aload_n (i := 0) 241 dX12_readFact_240 rfl rfl rfl ?_
                                                        refine e_iload_n (i := 1) 242 dX12_readFact_241 rfl rfl rfl ?_
                                                        refine e_iload_n (i := 2) 243 dX12_readFact_242 rfl rfl rfl ?_
                                                        refine e_callV 246 mt_yX12_emit mv_yX12_emit wd_1464 (by decide) dX12_readFact_243 at_928 jc_12 rfl rfl rfl (Nat.le_of_ble_eq_true rfl) (jroom (by omega)) rfl (m_emit (by (try simp (disch := omega) only [put_r6, put_w6, put_r7, put_w7, put_r9, put_w9, put_r10, put_w10, put_r11, put_w11, put_r12, put_w12, put_r13, put_w13, put_r14, put_w14, put_r15, put_w15, put_ra, put_r8, put_r0, put_rt, put_wa, u1, u2, hn8]); omega) (by (try simp (disch := omega) only [put_r6, put_w6, put_r7, put_w7, put_r9, put_w9, put_r10, put_w10, put_r11, put_w11, put_r12, put_w12, put_r13, put_w13, put_r14, put_w14, put_r15, put_w15, put_ra, put_r8, put_r0, put_rt, put_wa, u1, u2, hn8]); omega) (by (try simp (disch := omega) only [put_r6, put_w6, put_r7, put_w7, put_r9, put_w9, put_r10, put_w10, put_r11, put_w11, put_r12, put_w12, put_r13, put_w13, put_r14, put_w14, put_r15, put_w15, put_ra, put_r8, put_r0, put_rt, put_wa, u1, u2, hn8]); omega) ?_)
                                                        dsimp only [jpush]
                                                        (try simp (disch := omega) only [put_r6, put_w6, put_r7, put_w7, put_r9, put_w9, put_r10, put_w10, put_r11, put_w11, put_r12, put_w12, put_r13, put_w13, put_r14, put_w14, put_r15, put_w15, put_ra, put_r8, put_r0, put_rt, put_wa, u1, u2, hn8])
                                                        refine e_vret dX12_readFact_246 ?_
                                                        first
                                                          | (exfalso; omega)
                                                          | (rw [prs, if_pos rfl, if_neg (by omega), if_neg hk, if_neg hk2, pAtom, if_pos (by omega), ← e2, if_pos (by omega), if_neg (by omega), ← e1] at h
                                                             exact h))))
                                      · first
                                         | (exfalso; omega)
                                         | (skip
                                            refine e_aload_n (i := 0) 166 dX12_readFact_165 rfl rfl rfl ?_
                                            refine e_iconst 167 dX12_readFact_166 rfl ?_
                                            refine e_bipush 169 dX12_readFact_167 (by decide) rfl ?_
                                            refine e_callV 172 mt_yX12_reads mv_yX12_reads wd_1430 (by decide) dX12_readFact_169 at_928 jc_12 rfl rfl rfl (Nat.le_of_ble_eq_true rfl) (jroom (by omega)) rfl (m_reads hT (by (try simp (disch := omega) only [put_r6, put_w6, put_r7, put_w7, put_r9, put_w9, put_r10, put_w10, put_r11, put_w11, put_r12, put_w12, put_r13, put_w13, put_r14, put_w14, put_r15, put_w15, put_ra, put_r8, put_r0, put_rt, put_wa, u1, u2, hn8]); omega) (by (try simp (disch := omega) only [put_r6, put_w6, put_r7, put_w7, put_r9, put_w9, put_r10, put_w10, put_r11, put_w11, put_r12, put_w12, put_r13, put_w13, put_r14, put_w14, put_r15, put_w15, put_ra, put_r8, put_r0, put_rt, put_wa, u1, u2, hn8]); omega) (by (try simp (disch := omega) only [put_r6, put_w6, put_r7, put_w7, put_r9, put_w9, put_r10, put_w10, put_r11, put_w11, put_r12, put_w12, put_r13, put_w13, put_r14, put_w14, put_r15, put_w15, put_ra, put_r8, put_r0, put_rt, put_wa, u1, u2, hn8]); omega) ?_)
                                            dsimp only [jpush]
                                            (try simp (disch := omega) only [put_r6, put_w6, put_r7, put_w7, put_r9, put_w9, put_r10, put_w10, put_r11, put_w11, put_r12, put_w12, put_r13, put_w13, put_r14, put_w14, put_r15, put_w15, put_ra, put_r8, put_r0, put_rt, put_wa, u1, u2, hn8])
                                            obtain ⟨s2, e2⟩ : ∃ z, z = pAt2 (M 931) n s := ⟨_, rfl⟩
                                            have hk3 : s.2.2.1 = 15 := by omega
                                            have g2 : pRead (M 931) n 0 11 s1 = s2 := by
                                              rw [e2, pAt2, if_neg (by omega), hk3, ← e1]
                                              rfl
                                            rw [g2]
                                            have k2 := pk_read (lo := 0) (hi := 11) hT k1.1.1
                                            rw [g2] at k2
                                            have t2 := k2.1.2.2.2.2.1
                                            have i2 := k2.1.1
                                            refine e_goto 232 dX12_readFact_172 (by decide) ?_
                                            refine e_istore_n (i := 2) (lsn := [(2, _), (1, _), (0, _)]) 233 dX12_readFact_232 rfl (by decide) rfl rfl ?_
                                            refine e_aload_n (i := 0) 234 dX12_readFact_233 rfl rfl rfl ?_
                                            refine e_geti (j := 11) 237 fl_12_123 dX12_readFact_234 at_928 (by decide) rfl rfl (fun r234 => ?_)
                                            simp (disch := omega) only [put_r6, put_w6, put_r7, put_w7, put_r9, put_w9, put_r10, put_w10, put_r11, put_w11, put_r12, put_w12, put_r13, put_w13, put_r14, put_w14, put_r15, put_w15, put_ra, put_r8, put_r0, put_rt, put_wa, u1, u2, hn8] at r234 ⊢
                                            refine e_if_ne 240 246 dX12_readFact_237 (by omega) (by decide) rfl (fun b237 => ?_) (fun b237 => ?_)
                                            · first
                                               | (exfalso; omega)
                                               | (skip
                                                  refine e_vret dX12_readFact_246 ?_
                                                  first
                                                    | (exfalso; omega)
                                                    | (rw [prs, if_pos rfl, if_neg (by omega), if_neg hk, if_neg hk2, pAtom, if_pos (by omega), ← e2, if_neg (by omega)] at h
                                                       exact h))
                                            · first
                                               | (exfalso; omega)
                                               | (skip
                                                  refine e_aload_n (i := 0) 241 dX12_readFact_240 rfl rfl rfl ?_
                                                  refine e_iload_n (i := 1) 242 dX12_readFact_241 rfl rfl rfl ?_
                                                  refine e_iload_n (i := 2) 243 dX12_readFact_242 rfl rfl rfl ?_
                                                  refine e_callV 246 mt_yX12_emit mv_yX12_emit wd_1464 (by decide) dX12_readFact_243 at_928 jc_12 rfl rfl rfl (Nat.le_of_ble_eq_true rfl) (jroom (by omega)) rfl (m_emit (by (try simp (disch := omega) only [put_r6, put_w6, put_r7, put_w7, put_r9, put_w9, put_r10, put_w10, put_r11, put_w11, put_r12, put_w12, put_r13, put_w13, put_r14, put_w14, put_r15, put_w15, put_ra, put_r8, put_r0, put_rt, put_wa, u1, u2, hn8]); omega) (by (try simp (disch := omega) only [put_r6, put_w6, put_r7, put_w7, put_r9, put_w9, put_r10, put_w10, put_r11, put_w11, put_r12, put_w12, put_r13, put_w13, put_r14, put_w14, put_r15, put_w15, put_ra, put_r8, put_r0, put_rt, put_wa, u1, u2, hn8]); omega) (by (try simp (disch := omega) only [put_r6, put_w6, put_r7, put_w7, put_r9, put_w9, put_r10, put_w10, put_r11, put_w11, put_r12, put_w12, put_r13, put_w13, put_r14, put_w14, put_r15, put_w15, put_ra, put_r8, put_r0, put_rt, put_wa, u1, u2, hn8]); omega) ?_)
                                                  dsimp only [jpush]
                                                  (try simp (disch := omega) only [put_r6, put_w6, put_r7, put_w7, put_r9, put_w9, put_r10, put_w10, put_r11, put_w11, put_r12, put_w12, put_r13, put_w13, put_r14, put_w14, put_r15, put_w15, put_ra, put_r8, put_r0, put_rt, put_wa, u1, u2, hn8])
                                                  refine e_vret dX12_readFact_246 ?_
                                                  first
                                                    | (exfalso; omega)
                                                    | (rw [prs, if_pos rfl, if_neg (by omega), if_neg hk, if_neg hk2, pAtom, if_pos (by omega), ← e2, if_pos (by omega), if_neg (by omega), ← e1] at h
                                                       exact h))))
                                · first
                                   | (exfalso; omega)
                                   | (skip
                                      obtain ⟨s2, e2⟩ : ∃ z, z = pAt2 (M 931) n s := ⟨_, rfl⟩
                                      have g2 : s1 = s2 := by
                                        rw [e2, pAt2, if_pos (by omega), ← e1]
                                      rw [g2]
                                      have t2 := k1.1.1.2.2.2.2.1
                                      have i2 := k1.1.1.1
                                      rw [g2] at t2 i2
                                      refine e_iconst 156 dX12_readFact_155 rfl ?_
                                      refine e_goto 232 dX12_readFact_156 (by decide) ?_
                                      refine e_istore_n (i := 2) (lsn := [(2, _), (1, _), (0, _)]) 233 dX12_readFact_232 rfl (by decide) rfl rfl ?_
                                      refine e_aload_n (i := 0) 234 dX12_readFact_233 rfl rfl rfl ?_
                                      refine e_geti (j := 11) 237 fl_12_123 dX12_readFact_234 at_928 (by decide) rfl rfl (fun r234 => ?_)
                                      simp (disch := omega) only [put_r6, put_w6, put_r7, put_w7, put_r9, put_w9, put_r10, put_w10, put_r11, put_w11, put_r12, put_w12, put_r13, put_w13, put_r14, put_w14, put_r15, put_w15, put_ra, put_r8, put_r0, put_rt, put_wa, u1, u2, hn8] at r234 ⊢
                                      refine e_if_ne 240 246 dX12_readFact_237 (by omega) (by decide) rfl (fun b237 => ?_) (fun b237 => ?_)
                                      · first
                                         | (exfalso; omega)
                                         | (skip
                                            refine e_vret dX12_readFact_246 ?_
                                            first
                                              | (exfalso; omega)
                                              | (rw [prs, if_pos rfl, if_neg (by omega), if_neg hk, if_neg hk2, pAtom, if_pos (by omega), ← e2, if_neg (by omega)] at h
                                                 exact h))
                                      · first
                                         | (exfalso; omega)
                                         | (skip
                                            refine e_aload_n (i := 0) 241 dX12_readFact_240 rfl rfl rfl ?_
                                            refine e_iload_n (i := 1) 242 dX12_readFact_241 rfl rfl rfl ?_
                                            refine e_iload_n (i := 2) 243 dX12_readFact_242 rfl rfl rfl ?_
                                            refine e_callV 246 mt_yX12_emit mv_yX12_emit wd_1464 (by decide) dX12_readFact_243 at_928 jc_12 rfl rfl rfl (Nat.le_of_ble_eq_true rfl) (jroom (by omega)) rfl (m_emit (by (try simp (disch := omega) only [put_r6, put_w6, put_r7, put_w7, put_r9, put_w9, put_r10, put_w10, put_r11, put_w11, put_r12, put_w12, put_r13, put_w13, put_r14, put_w14, put_r15, put_w15, put_ra, put_r8, put_r0, put_rt, put_wa, u1, u2, hn8]); omega) (by (try simp (disch := omega) only [put_r6, put_w6, put_r7, put_w7, put_r9, put_w9, put_r10, put_w10, put_r11, put_w11, put_r12, put_w12, put_r13, put_w13, put_r14, put_w14, put_r15, put_w15, put_ra, put_r8, put_r0, put_rt, put_wa, u1, u2, hn8]); omega) (by (try simp (disch := omega) only [put_r6, put_w6, put_r7, put_w7, put_r9, put_w9, put_r10, put_w10, put_r11, put_w11, put_r12, put_w12, put_r13, put_w13, put_r14, put_w14, put_r15, put_w15, put_ra, put_r8, put_r0, put_rt, put_wa, u1, u2, hn8]); omega) ?_)
                                            dsimp only [jpush]
                                            (try simp (disch := omega) only [put_r6, put_w6, put_r7, put_w7, put_r9, put_w9, put_r10, put_w10, put_r11, put_w11, put_r12, put_w12, put_r13, put_w13, put_r14, put_w14, put_r15, put_w15, put_ra, put_r8, put_r0, put_rt, put_wa, u1, u2, hn8])
                                            refine e_vret dX12_readFact_246 ?_
                                            first
                                              | (exfalso; omega)
                                              | (rw [prs, if_pos rfl, if_neg (by omega), if_neg hk, if_neg hk2, pAtom, if_pos (by omega), ← e2, if_pos (by omega), if_pos (by omega)] at h
                                                 exact h))))
                          · first
                             | (exfalso; omega)
                             | (skip
                                refine e_vret dX12_readFact_144 ?_
                                first
                                  | (exfalso; omega)
                                  | (rw [prs, if_pos rfl, if_neg (by omega), if_neg hk, if_neg hk2, pAtom, if_neg (by omega)] at h
                                     exact h))))
              · omega))
  · omega

theorem rl_part {M : jM} {n : Int} (hT : RT M n) {f : Nat} (hR : RFact M n f) (hL : RLp M n f) : RLp M n (f + 1) := by
  intro X s Q e hI hm he h
  have hn8 := hT.1
  have hn := hT.2.1
  have q0 := hI.rng
  have i0 := hI.1
  have w0 := hI.2.2.2.1
  have d0 := hI.2.2.2.2.2.1
  have c0 := hI.2.1
  have x1 : s.2.2.1 ≤ 19 → s.1 + 2 ≤ s.2.1 := hI.2.1.2.2.1
  refine e_aload_n (i := 0) 5 dX12_readPart_4 rfl rfl rfl ?_
  refine e_bipush 7 dX12_readPart_5 (by decide) rfl ?_
  refine e_callV 10 mt_yX12_eats mv_yX12_eats wd_1438 (by decide) dX12_readPart_7 at_928 jc_12 rfl rfl rfl (Nat.le_of_ble_eq_true rfl) (jroom (by omega)) rfl (m_eats hT (by (try simp (disch := omega) only [put_r6, put_w6, put_r7, put_w7, put_r9, put_w9, put_r10, put_w10, put_r11, put_w11, put_r12, put_w12, put_r13, put_w13, put_r14, put_w14, put_r15, put_w15, put_ra, put_r8, put_r0, put_rt, put_wa, u1, u2, hn8]); omega) (by (try simp (disch := omega) only [put_r6, put_w6, put_r7, put_w7, put_r9, put_w9, put_r10, put_w10, put_r11, put_w11, put_r12, put_w12, put_r13, put_w13, put_r14, put_w14, put_r15, put_w15, put_ra, put_r8, put_r0, put_rt, put_wa, u1, u2, hn8]); omega) (fun w7 => ?_) (fun w7 => ?_))
  · dsimp only [jpush]
    (try simp (disch := omega) only [put_r6, put_w6, put_r7, put_w7, put_r9, put_w9, put_r10, put_w10, put_r11, put_w11, put_r12, put_w12, put_r13, put_w13, put_r14, put_w14, put_r15, put_w15, put_ra, put_r8, put_r0, put_rt, put_wa, u1, u2, hn8] at w7)
    (try simp (disch := omega) only [put_r6, put_w6, put_r7, put_w7, put_r9, put_w9, put_r10, put_w10, put_r11, put_w11, put_r12, put_w12, put_r13, put_w13, put_r14, put_w14, put_r15, put_w15, put_ra, put_r8, put_r0, put_rt, put_wa, u1, u2, hn8])
    refine e_if_eq 13 34 dX12_readPart_10 (by decide) (by decide) rfl (fun h => absurd h (by decide)) (fun _ => ?_)
    obtain ⟨s1, e1⟩ : ∃ z, z = pNext (M 931) n s := ⟨_, rfl⟩
    rw [← e1]
    have k1 := pq_next hT hI (by omega) (by omega)
    rw [← e1] at k1
    have i1 := k1.1.1
    have l1 := k1.1.2.1
    have h1 := k1.2
    have d1 := k1.1.2.2.2.2.1
    have b1 : s1.1 ≥ s.1 + 2 := by
      have z := (pk_next hT hI (by omega)).2
      rw [← e1] at z
      omega
    refine e_aload_n (i := 0) 14 dX12_readPart_13 rfl rfl rfl ?_
    refine e_callV 17 mt_yX12_readFact mv_yX12_readFact wd_1460 (by decide) dX12_readPart_14 at_928 jc_12 rfl rfl rfl (Nat.le_of_ble_eq_true rfl) (jroom (by omega)) rfl (hR s1 _ e i1 (by (try simp (disch := omega) only [put_r6, put_w6, put_r7, put_w7, put_r9, put_w9, put_r10, put_w10, put_r11, put_w11, put_r12, put_w12, put_r13, put_w13, put_r14, put_w14, put_r15, put_w15, put_ra, put_r8, put_r0, put_rt, put_wa, u1, u2, hn8]); omega) (by (try simp (disch := omega) only [put_r6, put_w6, put_r7, put_w7, put_r9, put_w9, put_r10, put_w10, put_r11, put_w11, put_r12, put_w12, put_r13, put_w13, put_r14, put_w14, put_r15, put_w15, put_ra, put_r8, put_r0, put_rt, put_wa, u1, u2, hn8]); omega) ?_)
    dsimp only [jpush]
    (try simp (disch := omega) only [put_r6, put_w6, put_r7, put_w7, put_r9, put_w9, put_r10, put_w10, put_r11, put_w11, put_r12, put_w12, put_r13, put_w13, put_r14, put_w14, put_r15, put_w15, put_ra, put_r8, put_r0, put_rt, put_wa, u1, u2, hn8])
    obtain ⟨s2, e2⟩ : ∃ z, z = prs (M 931) n f 0 s1 := ⟨_, rfl⟩
    rw [← e2]
    have k2 := prs_ok hT f 0 s1 i1
    rw [← e2] at k2
    have k3 := pq_em0 (k := 12) hI (k1.1.trans k2) (by omega) (by have a := k2.2.2.1; omega)
    have i2 := k2.1.1
    have t2 := k2.1.2.2.2.2.1
    have d3 := k3.2.2.2.2.1
    have b3 := k2.2.1
    refine e_aload_n (i := 0) 18 dX12_readPart_17 rfl rfl rfl ?_
    refine e_geti (j := 11) 21 fl_12_123 dX12_readPart_18 at_928 (by decide) rfl rfl (fun r18 => ?_)
    simp (disch := omega) only [put_r6, put_w6, put_r7, put_w7, put_r9, put_w9, put_r10, put_w10, put_r11, put_w11, put_r12, put_w12, put_r13, put_w13, put_r14, put_w14, put_r15, put_w15, put_ra, put_r8, put_r0, put_rt, put_wa, u1, u2, hn8] at r18 ⊢
    refine e_if_ne 24 4 dX12_readPart_21 (by omega) (by decide) rfl (fun b21 => ?_) (fun b21 => ?_)
    · skip
      have e3 : pEm 12 s2 = s2 := by
        rw [pEm, if_neg (by omega)]
      rw [e3] at k3 d3
      have b4 : s1.1 ≤ s2.1 := b3
      refine hL X _ Q e k3.1 (by omega) (by omega) ?_
      rw [prs, if_neg (by decide), if_pos rfl, if_pos (by omega), ← e1, ← e2, e3] at h
      exact h
    · skip
      refine e_aload_n (i := 0) 25 dX12_readPart_24 rfl rfl rfl ?_
      refine e_bipush 27 dX12_readPart_25 (by decide) rfl ?_
      refine e_iconst 28 dX12_readPart_27 rfl ?_
      refine e_callV 31 mt_yX12_emit mv_yX12_emit wd_1464 (by decide) dX12_readPart_28 at_928 jc_12 rfl rfl rfl (Nat.le_of_ble_eq_true rfl) (jroom (by omega)) rfl (m_emit (by (try simp (disch := omega) only [put_r6, put_w6, put_r7, put_w7, put_r9, put_w9, put_r10, put_w10, put_r11, put_w11, put_r12, put_w12, put_r13, put_w13, put_r14, put_w14, put_r15, put_w15, put_ra, put_r8, put_r0, put_rt, put_wa, u1, u2, hn8]); omega) (by (try simp (disch := omega) only [put_r6, put_w6, put_r7, put_w7, put_r9, put_w9, put_r10, put_w10, put_r11, put_w11, put_r12, put_w12, put_r13, put_w13, put_r14, put_w14, put_r15, put_w15, put_ra, put_r8, put_r0, put_rt, put_wa, u1, u2, hn8]); omega) (by (try simp (disch := omega) only [put_r6, put_w6, put_r7, put_w7, put_r9, put_w9, put_r10, put_w10, put_r11, put_w11, put_r12, put_w12, put_r13, put_w13, put_r14, put_w14, put_r15, put_w15, put_ra, put_r8, put_r0, put_rt, put_wa, u1, u2, hn8]); omega) ?_)
      dsimp only [jpush]
      (try simp (disch := omega) only [put_r6, put_w6, put_r7, put_w7, put_r9, put_w9, put_r10, put_w10, put_r11, put_w11, put_r12, put_w12, put_r13, put_w13, put_r14, put_w14, put_r15, put_w15, put_ra, put_r8, put_r0, put_rt, put_wa, u1, u2, hn8])
      refine e_goto 4 dX12_readPart_31 (by decide) ?_
      have e3 : pEm 12 s2 = pEmit 12 0 s2 := by
        rw [pEm, if_pos (by omega)]
      rw [e3] at k3 d3
      have b4 : s1.1 ≤ (pEmit 12 0 s2).1 := b3
      refine hL X _ Q e k3.1 (by omega) (by omega) ?_
      rw [prs, if_neg (by decide), if_pos rfl, if_pos (by omega), ← e1, ← e2, e3] at h
      exact h
  · dsimp only [jpush]
    (try simp (disch := omega) only [put_r6, put_w6, put_r7, put_w7, put_r9, put_w9, put_r10, put_w10, put_r11, put_w11, put_r12, put_w12, put_r13, put_w13, put_r14, put_w14, put_r15, put_w15, put_ra, put_r8, put_r0, put_rt, put_wa, u1, u2, hn8] at w7)
    (try simp (disch := omega) only [put_r6, put_w6, put_r7, put_w7, put_r9, put_w9, put_r10, put_w10, put_r11, put_w11, put_r12, put_w12, put_r13, put_w13, put_r14, put_w14, put_r15, put_w15, put_ra, put_r8, put_r0, put_rt, put_wa, u1, u2, hn8])
    refine e_if_eq 13 34 dX12_readPart_10 (by decide) (by decide) rfl (fun _ => ?_) (fun h => absurd h (by decide))
    refine e_vret dX12_readPart_34 ?_
    rw [prs, if_neg (by decide), if_pos rfl, if_neg (by omega)] at h
    exact h

theorem rs_part {M : jM} {n : Int} (hT : RT M n) {f : Nat} (hR : RFact M n f) (hL : RLp M n f) : RPart M n (f + 1) := by
  intro s Q e hI hm he h
  refine jCt_of mt_yX12_readPart (Nat.le_of_ble_eq_true rfl) (fun X => ?_)
  have hn8 := hT.1
  have hn := hT.2.1
  have q0 := hI.rng
  have i0 := hI.1
  have w0 := hI.2.2.2.1
  have d0 := hI.2.2.2.2.2.1
  have c0 := hI.2.1
  refine e_aload_n (i := 0) 1 dX12_readPart_0 rfl rfl rfl ?_
  refine e_callV 4 mt_yX12_readFact mv_yX12_readFact wd_1460 (by decide) dX12_readPart_1 at_928 jc_12 rfl rfl rfl (Nat.le_of_ble_eq_true rfl) (jroom (by omega)) rfl (hR s _ e hI (by (try simp (disch := omega) only [put_r6, put_w6, put_r7, put_w7, put_r9, put_w9, put_r10, put_w10, put_r11, put_w11, put_r12, put_w12, put_r13, put_w13, put_r14, put_w14, put_r15, put_w15, put_ra, put_r8, put_r0, put_rt, put_wa, u1, u2, hn8]); omega) (by (try simp (disch := omega) only [put_r6, put_w6, put_r7, put_w7, put_r9, put_w9, put_r10, put_w10, put_r11, put_w11, put_r12, put_w12, put_r13, put_w13, put_r14, put_w14, put_r15, put_w15, put_ra, put_r8, put_r0, put_rt, put_wa, u1, u2, hn8]); omega) ?_)
  dsimp only [jpush]
  (try simp (disch := omega) only [put_r6, put_w6, put_r7, put_w7, put_r9, put_w9, put_r10, put_w10, put_r11, put_w11, put_r12, put_w12, put_r13, put_w13, put_r14, put_w14, put_r15, put_w15, put_ra, put_r8, put_r0, put_rt, put_wa, u1, u2, hn8])
  have k2 := prs_ok hT f 0 s hI
  have d3 := k2.2.2.2.2.1
  have b3 := k2.2.1
  refine hL X _ Q e k2.1 (by omega) (by omega) ?_
  rw [prs, if_neg (by decide), if_neg (by decide), if_neg (by decide), if_pos rfl] at h
  exact h

theorem rl_test {M : jM} {n : Int} (hT : RT M n) {f : Nat} (hR : RPart M n f) (hL : RLt M n f) : RLt M n (f + 1) := by
  intro X s Q e hI hm he h
  have hn8 := hT.1
  have hn := hT.2.1
  have q0 := hI.rng
  have i0 := hI.1
  have w0 := hI.2.2.2.1
  have d0 := hI.2.2.2.2.2.1
  have c0 := hI.2.1
  have x1 : s.2.2.1 ≤ 19 → s.1 + 2 ≤ s.2.1 := hI.2.1.2.2.1
  refine e_aload_n (i := 0) 5 dX12_readTest_4 rfl rfl rfl ?_
  refine e_bipush 7 dX12_readTest_5 (by decide) rfl ?_
  refine e_callV 10 mt_yX12_eats mv_yX12_eats wd_1438 (by decide) dX12_readTest_7 at_928 jc_12 rfl rfl rfl (Nat.le_of_ble_eq_true rfl) (jroom (by omega)) rfl (m_eats hT (by (try simp (disch := omega) only [put_r6, put_w6, put_r7, put_w7, put_r9, put_w9, put_r10, put_w10, put_r11, put_w11, put_r12, put_w12, put_r13, put_w13, put_r14, put_w14, put_r15, put_w15, put_ra, put_r8, put_r0, put_rt, put_wa, u1, u2, hn8]); omega) (by (try simp (disch := omega) only [put_r6, put_w6, put_r7, put_w7, put_r9, put_w9, put_r10, put_w10, put_r11, put_w11, put_r12, put_w12, put_r13, put_w13, put_r14, put_w14, put_r15, put_w15, put_ra, put_r8, put_r0, put_rt, put_wa, u1, u2, hn8]); omega) (fun w7 => ?_) (fun w7 => ?_))
  · dsimp only [jpush]
    (try simp (disch := omega) only [put_r6, put_w6, put_r7, put_w7, put_r9, put_w9, put_r10, put_w10, put_r11, put_w11, put_r12, put_w12, put_r13, put_w13, put_r14, put_w14, put_r15, put_w15, put_ra, put_r8, put_r0, put_rt, put_wa, u1, u2, hn8] at w7)
    (try simp (disch := omega) only [put_r6, put_w6, put_r7, put_w7, put_r9, put_w9, put_r10, put_w10, put_r11, put_w11, put_r12, put_w12, put_r13, put_w13, put_r14, put_w14, put_r15, put_w15, put_ra, put_r8, put_r0, put_rt, put_wa, u1, u2, hn8])
    refine e_if_eq 13 34 dX12_readTest_10 (by decide) (by decide) rfl (fun h => absurd h (by decide)) (fun _ => ?_)
    obtain ⟨s1, e1⟩ : ∃ z, z = pNext (M 931) n s := ⟨_, rfl⟩
    rw [← e1]
    have k1 := pq_next hT hI (by omega) (by omega)
    rw [← e1] at k1
    have i1 := k1.1.1
    have l1 := k1.1.2.1
    have h1 := k1.2
    have d1 := k1.1.2.2.2.2.1
    have b1 : s1.1 ≥ s.1 + 2 := by
      have z := (pk_next hT hI (by omega)).2
      rw [← e1] at z
      omega
    refine e_aload_n (i := 0) 14 dX12_readTest_13 rfl rfl rfl ?_
    refine e_callV 17 mt_yX12_readPart mv_yX12_readPart wd_1456 (by decide) dX12_readTest_14 at_928 jc_12 rfl rfl rfl (Nat.le_of_ble_eq_true rfl) (jroom (by omega)) rfl (hR s1 _ e i1 (by (try simp (disch := omega) only [put_r6, put_w6, put_r7, put_w7, put_r9, put_w9, put_r10, put_w10, put_r11, put_w11, put_r12, put_w12, put_r13, put_w13, put_r14, put_w14, put_r15, put_w15, put_ra, put_r8, put_r0, put_rt, put_wa, u1, u2, hn8]); omega) (by (try simp (disch := omega) only [put_r6, put_w6, put_r7, put_w7, put_r9, put_w9, put_r10, put_w10, put_r11, put_w11, put_r12, put_w12, put_r13, put_w13, put_r14, put_w14, put_r15, put_w15, put_ra, put_r8, put_r0, put_rt, put_wa, u1, u2, hn8]); omega) ?_)
    dsimp only [jpush]
    (try simp (disch := omega) only [put_r6, put_w6, put_r7, put_w7, put_r9, put_w9, put_r10, put_w10, put_r11, put_w11, put_r12, put_w12, put_r13, put_w13, put_r14, put_w14, put_r15, put_w15, put_ra, put_r8, put_r0, put_rt, put_wa, u1, u2, hn8])
    obtain ⟨s2, e2⟩ : ∃ z, z = prs (M 931) n f 3 s1 := ⟨_, rfl⟩
    rw [← e2]
    have k2 := prs_ok hT f 3 s1 i1
    rw [← e2] at k2
    have k3 := pq_em0 (k := 11) hI (k1.1.trans k2) (by omega) (by have a := k2.2.2.1; omega)
    have i2 := k2.1.1
    have t2 := k2.1.2.2.2.2.1
    have d3 := k3.2.2.2.2.1
    have b3 := k2.2.1
    refine e_aload_n (i := 0) 18 dX12_readTest_17 rfl rfl rfl ?_
    refine e_geti (j := 11) 21 fl_12_123 dX12_readTest_18 at_928 (by decide) rfl rfl (fun r18 => ?_)
    simp (disch := omega) only [put_r6, put_w6, put_r7, put_w7, put_r9, put_w9, put_r10, put_w10, put_r11, put_w11, put_r12, put_w12, put_r13, put_w13, put_r14, put_w14, put_r15, put_w15, put_ra, put_r8, put_r0, put_rt, put_wa, u1, u2, hn8] at r18 ⊢
    refine e_if_ne 24 4 dX12_readTest_21 (by omega) (by decide) rfl (fun b21 => ?_) (fun b21 => ?_)
    · skip
      have e3 : pEm 11 s2 = s2 := by
        rw [pEm, if_neg (by omega)]
      rw [e3] at k3 d3
      have b4 : s1.1 ≤ s2.1 := b3
      refine hL X _ Q e k3.1 (by omega) (by omega) ?_
      rw [prs, if_neg (by decide), if_neg (by decide), if_pos rfl, if_pos (by omega), ← e1, ← e2, e3] at h
      exact h
    · skip
      refine e_aload_n (i := 0) 25 dX12_readTest_24 rfl rfl rfl ?_
      refine e_bipush 27 dX12_readTest_25 (by decide) rfl ?_
      refine e_iconst 28 dX12_readTest_27 rfl ?_
      refine e_callV 31 mt_yX12_emit mv_yX12_emit wd_1464 (by decide) dX12_readTest_28 at_928 jc_12 rfl rfl rfl (Nat.le_of_ble_eq_true rfl) (jroom (by omega)) rfl (m_emit (by (try simp (disch := omega) only [put_r6, put_w6, put_r7, put_w7, put_r9, put_w9, put_r10, put_w10, put_r11, put_w11, put_r12, put_w12, put_r13, put_w13, put_r14, put_w14, put_r15, put_w15, put_ra, put_r8, put_r0, put_rt, put_wa, u1, u2, hn8]); omega) (by (try simp (disch := omega) only [put_r6, put_w6, put_r7, put_w7, put_r9, put_w9, put_r10, put_w10, put_r11, put_w11, put_r12, put_w12, put_r13, put_w13, put_r14, put_w14, put_r15, put_w15, put_ra, put_r8, put_r0, put_rt, put_wa, u1, u2, hn8]); omega) (by (try simp (disch := omega) only [put_r6, put_w6, put_r7, put_w7, put_r9, put_w9, put_r10, put_w10, put_r11, put_w11, put_r12, put_w12, put_r13, put_w13, put_r14, put_w14, put_r15, put_w15, put_ra, put_r8, put_r0, put_rt, put_wa, u1, u2, hn8]); omega) ?_)
      dsimp only [jpush]
      (try simp (disch := omega) only [put_r6, put_w6, put_r7, put_w7, put_r9, put_w9, put_r10, put_w10, put_r11, put_w11, put_r12, put_w12, put_r13, put_w13, put_r14, put_w14, put_r15, put_w15, put_ra, put_r8, put_r0, put_rt, put_wa, u1, u2, hn8])
      refine e_goto 4 dX12_readTest_31 (by decide) ?_
      have e3 : pEm 11 s2 = pEmit 11 0 s2 := by
        rw [pEm, if_pos (by omega)]
      rw [e3] at k3 d3
      have b4 : s1.1 ≤ (pEmit 11 0 s2).1 := b3
      refine hL X _ Q e k3.1 (by omega) (by omega) ?_
      rw [prs, if_neg (by decide), if_neg (by decide), if_pos rfl, if_pos (by omega), ← e1, ← e2, e3] at h
      exact h
  · dsimp only [jpush]
    (try simp (disch := omega) only [put_r6, put_w6, put_r7, put_w7, put_r9, put_w9, put_r10, put_w10, put_r11, put_w11, put_r12, put_w12, put_r13, put_w13, put_r14, put_w14, put_r15, put_w15, put_ra, put_r8, put_r0, put_rt, put_wa, u1, u2, hn8] at w7)
    (try simp (disch := omega) only [put_r6, put_w6, put_r7, put_w7, put_r9, put_w9, put_r10, put_w10, put_r11, put_w11, put_r12, put_w12, put_r13, put_w13, put_r14, put_w14, put_r15, put_w15, put_ra, put_r8, put_r0, put_rt, put_wa, u1, u2, hn8])
    refine e_if_eq 13 34 dX12_readTest_10 (by decide) (by decide) rfl (fun _ => ?_) (fun h => absurd h (by decide))
    refine e_vret dX12_readTest_34 ?_
    rw [prs, if_neg (by decide), if_neg (by decide), if_pos rfl, if_neg (by omega)] at h
    exact h

theorem rs_test {M : jM} {n : Int} (hT : RT M n) {f : Nat} (hR : RPart M n f) (hL : RLt M n f) : RTest M n (f + 1) := by
  intro s Q e hI hm he h
  refine jCt_of mt_yX12_readTest (Nat.le_of_ble_eq_true rfl) (fun X => ?_)
  have hn8 := hT.1
  have hn := hT.2.1
  have q0 := hI.rng
  have i0 := hI.1
  have w0 := hI.2.2.2.1
  have d0 := hI.2.2.2.2.2.1
  have c0 := hI.2.1
  refine e_aload_n (i := 0) 1 dX12_readTest_0 rfl rfl rfl ?_
  refine e_callV 4 mt_yX12_readPart mv_yX12_readPart wd_1456 (by decide) dX12_readTest_1 at_928 jc_12 rfl rfl rfl (Nat.le_of_ble_eq_true rfl) (jroom (by omega)) rfl (hR s _ e hI (by (try simp (disch := omega) only [put_r6, put_w6, put_r7, put_w7, put_r9, put_w9, put_r10, put_w10, put_r11, put_w11, put_r12, put_w12, put_r13, put_w13, put_r14, put_w14, put_r15, put_w15, put_ra, put_r8, put_r0, put_rt, put_wa, u1, u2, hn8]); omega) (by (try simp (disch := omega) only [put_r6, put_w6, put_r7, put_w7, put_r9, put_w9, put_r10, put_w10, put_r11, put_w11, put_r12, put_w12, put_r13, put_w13, put_r14, put_w14, put_r15, put_w15, put_ra, put_r8, put_r0, put_rt, put_wa, u1, u2, hn8]); omega) ?_)
  dsimp only [jpush]
  (try simp (disch := omega) only [put_r6, put_w6, put_r7, put_w7, put_r9, put_w9, put_r10, put_w10, put_r11, put_w11, put_r12, put_w12, put_r13, put_w13, put_r14, put_w14, put_r15, put_w15, put_ra, put_r8, put_r0, put_rt, put_wa, u1, u2, hn8])
  have k2 := prs_ok hT f 3 s hI
  have d3 := k2.2.2.2.2.1
  have b3 := k2.2.1
  refine hL X _ Q e k2.1 (by omega) (by omega) ?_
  rw [prs, if_neg (by decide), if_neg (by decide), if_neg (by decide), if_neg (by decide)] at h
  exact h

theorem ref_parse {M : jM} {n : Int} (hT : RT M n) : ∀ f : Nat, RFact M n f ∧ RPart M n f ∧ RTest M n f ∧ RLp M n f ∧ RLt M n f
  | 0 => ⟨fun s Q e hI hm => by have := hI.1; omega, fun s Q e hI hm => by have := hI.1; omega, fun s Q e hI hm => by have := hI.1; omega, fun X s Q e hI hm => by have := hI.1; omega, fun X s Q e hI hm => by have := hI.1; omega⟩
  | f + 1 => by
    obtain ⟨h1, h2, h3, h4, h5⟩ := ref_parse hT f
    exact ⟨rf_step hT h1 h3, rs_part hT h1 h4, rs_test hT h2 h5, rl_part hT h1 h4, rl_test hT h2 h5⟩
