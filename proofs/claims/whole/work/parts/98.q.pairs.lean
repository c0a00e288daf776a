/-! TEXTS *** the reference: a line of the law -/
theorem m_upto {M : jM} {n : Int} {Q : Int → jM → Prop} (hT : RT M n) {s : PS} (hI : PI n s) (hw : s.2.2.2.2.1 = 0) (h : Q 0 (put M (pUpto (M 931) n s))) : jCt yX12_readUpto cX12_readUpto 5 none 9 [jR 928] (put M s) Q := by
  refine jCt_of mt_yX12_readUpto (Nat.le_of_ble_eq_true rfl) (fun X => ?_)
  have hn8 := hT.1
  have hn := hT.2.1
  have q0 := hI.rng
  have n0 := hI.2.2.2.2.2.2.1
  have w0 := hI.2.2.2.1
  have p4 := (pk_fail (f := 4) (by omega) hI).2
  have l9 : s.2.2.2.2.2.2.2.2.2 0 ≠ 0 → 1 ≤ s.2.2.2.2.2.2.2.2.2 (1 + s.2.2.2.2.2.2.2.2.2 0 - 1) ∧ s.2.2.2.2.2.2.2.2.2 (1 + s.2.2.2.2.2.2.2.2.2 0 - 1) ≤ 999 := fun z => by
    have q := hI.2.2.2.2.2.2.2.2.1 (s.2.2.2.2.2.2.2.2.2 0 - 1) (by omega) (by omega)
    rw [show 1 + (s.2.2.2.2.2.2.2.2.2 0 - 1) = 1 + s.2.2.2.2.2.2.2.2.2 0 - 1 by omega] at q
    exact q
  by_cases hz : s.2.2.2.2.2.2.2.2.2 0 = 0
  case pos =>
    refine e_aload_n (i := 0) 1 dX12_readUpto_0 rfl rfl rfl ?_
    refine e_getr (j := 4) 4 fl_12_24 dX12_readUpto_1 at_928 rfl rfl tp_928_4 rfl ?_
    refine e_iconst 5 dX12_readUpto_4 rfl ?_
    refine e_iald 6 dX12_readUpto_5 ar_932 (by decide) (by decide) rfl (fun r5 => ?_)
    simp (disch := omega) only [put_r6, put_w6, put_r7, put_w7, put_r9, put_w9, put_r10, put_w10, put_r11, put_w11, put_r12, put_w12, put_r13, put_w13, put_r14, put_w14, put_r15, put_w15, put_ra, put_r8, put_r0, put_rt, put_wa, u1, u2, hn8] at r5 ⊢
    refine e_istore_n (i := 1) (lsn := [(1, _), (0, _)]) 7 dX12_readUpto_6 rfl (by decide) rfl rfl ?_
    refine e_iload_n (i := 1) 8 dX12_readUpto_7 rfl rfl rfl ?_
    refine e_bipush 10 dX12_readUpto_8 (by decide) rfl ?_
    refine e_icmp_ne 13 18 dX12_readUpto_10 (by omega) (by decide) (by decide) rfl (fun b10 => ?_) (fun b10 => ?_)
    · first
       | (exfalso; omega)
       | (skip
          refine e_aload_n (i := 0) 19 dX12_readUpto_18 rfl rfl rfl ?_
          refine e_geti (j := 11) 22 fl_12_123 dX12_readUpto_19 at_928 (by decide) rfl rfl (fun r19 => ?_)
          simp (disch := omega) only [put_r6, put_w6, put_r7, put_w7, put_r9, put_w9, put_r10, put_w10, put_r11, put_w11, put_r12, put_w12, put_r13, put_w13, put_r14, put_w14, put_r15, put_w15, put_ra, put_r8, put_r0, put_rt, put_wa, u1, u2, hn8] at r19 ⊢
          refine e_if_eq 25 26 dX12_readUpto_22 (by omega) (by decide) rfl (fun b22 => ?_) (fun b22 => ?_)
          · first
             | (exfalso; omega)
             | (skip
                refine e_aload_n (i := 0) 27 dX12_readUpto_26 rfl rfl rfl ?_
                refine e_callV 30 mt_yX12_next mv_yX12_next wd_1393 (by decide) dX12_readUpto_27 at_928 jc_12 rfl rfl rfl (Nat.le_of_ble_eq_true rfl) (jroom (by decide)) rfl (m_next hT (by (try simp (disch := omega) only [put_r6, put_w6, put_r7, put_w7, put_r9, put_w9, put_r10, put_w10, put_r11, put_w11, put_r12, put_w12, put_r13, put_w13, put_r14, put_w14, put_r15, put_w15, put_ra, put_r8, put_r0, put_rt, put_wa, u1, u2, hn8]); omega) ?_)
                dsimp only [jpush]
                (try simp (disch := omega) only [put_r6, put_w6, put_r7, put_w7, put_r9, put_w9, put_r10, put_w10, put_r11, put_w11, put_r12, put_w12, put_r13, put_w13, put_r14, put_w14, put_r15, put_w15, put_ra, put_r8, put_r0, put_rt, put_wa, u1, u2, hn8])
                obtain ⟨s1, e1⟩ : ∃ z, z = pU1 (M 931) n s := ⟨_, rfl⟩
                have g1 : pNext (M 931) n s = s1 := by
                  rw [e1]
                  rfl
                rw [g1]
                have k1 := (pk_next hT hI hw).1
                rw [g1] at k1
                have q1 := k1.1.rng
                have v1 := k1.1.2.2.1
                have a1 : s1.2.2.2.2.2.2 = s.2.2.2.2.2.2 := k1.2.2.2
                refine e_aload_n (i := 0) 31 dX12_readUpto_30 rfl rfl rfl ?_
                refine e_iload_n (i := 1) 32 dX12_readUpto_31 rfl rfl rfl ?_
                refine e_if_ne 35 39 dX12_readUpto_32 (by omega) (by decide) rfl (fun b32 => ?_) (fun b32 => ?_)
                · omega
                · first
                   | (exfalso; omega)
                   | (skip
                      refine e_iconst 36 dX12_readUpto_35 rfl ?_
                      refine e_goto 51 dX12_readUpto_36 (by decide) ?_
                      refine e_sipush 54 dX12_readUpto_51 (by decide) rfl ?_
                      refine e_callV 57 mt_yX12_reads mv_yX12_reads wd_1430 (by decide) dX12_readUpto_54 at_928 jc_12 rfl rfl rfl (Nat.le_of_ble_eq_true rfl) (jroom (by decide)) rfl (m_reads hT (by (try simp (disch := omega) only [put_r6, put_w6, put_r7, put_w7, put_r9, put_w9, put_r10, put_w10, put_r11, put_w11, put_r12, put_w12, put_r13, put_w13, put_r14, put_w14, put_r15, put_w15, put_ra, put_r8, put_r0, put_rt, put_wa, u1, u2, hn8]); omega) (by (try simp (disch := omega) only [put_r6, put_w6, put_r7, put_w7, put_r9, put_w9, put_r10, put_w10, put_r11, put_w11, put_r12, put_w12, put_r13, put_w13, put_r14, put_w14, put_r15, put_w15, put_ra, put_r8, put_r0, put_rt, put_wa, u1, u2, hn8]); omega) (by (try simp (disch := omega) only [put_r6, put_w6, put_r7, put_w7, put_r9, put_w9, put_r10, put_w10, put_r11, put_w11, put_r12, put_w12, put_r13, put_w13, put_r14, put_w14, put_r15, put_w15, put_ra, put_r8, put_r0, put_rt, put_wa, u1, u2, hn8]); omega) ?_)
                      dsimp only [jpush]
                      (try simp (disch := omega) only [put_r6, put_w6, put_r7, put_w7, put_r9, put_w9, put_r10, put_w10, put_r11, put_w11, put_r12, put_w12, put_r13, put_w13, put_r14, put_w14, put_r15, put_w15, put_ra, put_r8, put_r0, put_rt, put_wa, u1, u2, hn8])
                      obtain ⟨s2, e2⟩ : ∃ z, z = pU2 (M 931) n s := ⟨_, rfl⟩
                      have g2 : pRead (M 931) n 1 999 s1 = s2 := by
                        rw [e2]
                        rw [pU2, if_pos (by omega), ← e1]
                      rw [g2]
                      have k2 := pk_read (lo := 1) (hi := 999) hT k1.1
                      rw [g2] at k2
                      have q2 := k2.1.rng
                      have v2 := k2.1.2.2.1
                      have a2 : s2.2.2.2.2.2.2 = s1.2.2.2.2.2.2 := k2.2.2.2
                      refine e_istore_n (i := 2) (lsn := [(2, _), (1, _), (0, _)]) 58 dX12_readUpto_57 rfl (by decide) rfl rfl ?_
                      refine e_aload_n (i := 0) 59 dX12_readUpto_58 rfl rfl rfl ?_
                      refine e_iconst 60 dX12_readUpto_59 rfl ?_
                      refine e_callV 63 mt_yX12_musts mv_yX12_musts wd_1434 (by decide) dX12_readUpto_60 at_928 jc_12 rfl rfl rfl (Nat.le_of_ble_eq_true rfl) (jroom (by decide)) rfl (m_musts hT (by (try simp (disch := omega) only [put_r6, put_w6, put_r7, put_w7, put_r9, put_w9, put_r10, put_w10, put_r11, put_w11, put_r12, put_w12, put_r13, put_w13, put_r14, put_w14, put_r15, put_w15, put_ra, put_r8, put_r0, put_rt, put_wa, u1, u2, hn8]); omega) (by (try simp (disch := omega) only [put_r6, put_w6, put_r7, put_w7, put_r9, put_w9, put_r10, put_w10, put_r11, put_w11, put_r12, put_w12, put_r13, put_w13, put_r14, put_w14, put_r15, put_w15, put_ra, put_r8, put_r0, put_rt, put_wa, u1, u2, hn8]); omega) ?_)
                      dsimp only [jpush]
                      (try simp (disch := omega) only [put_r6, put_w6, put_r7, put_w7, put_r9, put_w9, put_r10, put_w10, put_r11, put_w11, put_r12, put_w12, put_r13, put_w13, put_r14, put_w14, put_r15, put_w15, put_ra, put_r8, put_r0, put_rt, put_wa, u1, u2, hn8])
                      obtain ⟨s3, e3⟩ : ∃ z, z = pU3 (M 931) n s := ⟨_, rfl⟩
                      have g3 : pMust (M 931) n 1 s2 = s3 := by
                        rw [e3]
                        rw [pU3, ← e2]
                      rw [g3]
                      have k3 := pk_must (k := 1) hT k2.1
                      rw [g3] at k3
                      have q3 := k3.1.rng
                      have v3 := k3.1.2.2.1
                      have a3 : s3.2.2.2.2.2.2 = s2.2.2.2.2.2.2 := k3.2.2.2
                      refine e_aload_n (i := 0) 64 dX12_readUpto_63 rfl rfl rfl ?_
                      refine e_iconst 65 dX12_readUpto_64 rfl ?_
                      refine e_bipush 67 dX12_readUpto_65 (by decide) rfl ?_
                      refine e_callV 70 mt_yX12_reads mv_yX12_reads wd_1430 (by decide) dX12_readUpto_67 at_928 jc_12 rfl rfl rfl (Nat.le_of_ble_eq_true rfl) (jroom (by decide)) rfl (m_reads hT (by (try simp (disch := omega) only [put_r6, put_w6, put_r7, put_w7, put_r9, put_w9, put_r10, put_w10, put_r11, put_w11, put_r12, put_w12, put_r13, put_w13, put_r14, put_w14, put_r15, put_w15, put_ra, put_r8, put_r0, put_rt, put_wa, u1, u2, hn8]); omega) (by (try simp (disch := omega) only [put_r6, put_w6, put_r7, put_w7, put_r9, put_w9, put_r10, put_w10, put_r11, put_w11, put_r12, put_w12, put_r13, put_w13, put_r14, put_w14, put_r15, put_w15, put_ra, put_r8, put_r0, put_rt, put_wa, u1, u2, hn8]); omega) (by (try simp (disch := omega) only [put_r6, put_w6, put_r7, put_w7, put_r9, put_w9, put_r10, put_w10, put_r11, put_w11, put_r12, put_w12, put_r13, put_w13, put_r14, put_w14, put_r15, put_w15, put_ra, put_r8, put_r0, put_rt, put_wa, u1, u2, hn8]); omega) ?_)
                      dsimp only [jpush]
                      (try simp (disch := omega) only [put_r6, put_w6, put_r7, put_w7, put_r9, put_w9, put_r10, put_w10, put_r11, put_w11, put_r12, put_w12, put_r13, put_w13, put_r14, put_w14, put_r15, put_w15, put_ra, put_r8, put_r0, put_rt, put_wa, u1, u2, hn8])
                      obtain ⟨s4, e4⟩ : ∃ z, z = pU4 (M 931) n s := ⟨_, rfl⟩
                      have g4 : pRead (M 931) n 0 99 s3 = s4 := by
                        rw [e4]
                        rw [pU4, ← e3]
                      rw [g4]
                      have k4 := pk_read (lo := 0) (hi := 99) hT k3.1
                      rw [g4] at k4
                      have q4 := k4.1.rng
                      have v4 := k4.1.2.2.1
                      have a4 : s4.2.2.2.2.2.2 = s3.2.2.2.2.2.2 := k4.2.2.2
                      refine e_istore_n (i := 3) (lsn := [(3, _), (2, _), (1, _), (0, _)]) 71 dX12_readUpto_70 rfl (by decide) rfl rfl ?_
                      refine e_aload_n (i := 0) 72 dX12_readUpto_71 rfl rfl rfl ?_
                      refine e_iconst 73 dX12_readUpto_72 rfl ?_
                      refine e_callV 76 mt_yX12_musts mv_yX12_musts wd_1434 (by decide) dX12_readUpto_73 at_928 jc_12 rfl rfl rfl (Nat.le_of_ble_eq_true rfl) (jroom (by decide)) rfl (m_musts hT (by (try simp (disch := omega) only [put_r6, put_w6, put_r7, put_w7, put_r9, put_w9, put_r10, put_w10, put_r11, put_w11, put_r12, put_w12, put_r13, put_w13, put_r14, put_w14, put_r15, put_w15, put_ra, put_r8, put_r0, put_rt, put_wa, u1, u2, hn8]); omega) (by (try simp (disch := omega) only [put_r6, put_w6, put_r7, put_w7, put_r9, put_w9, put_r10, put_w10, put_r11, put_w11, put_r12, put_w12, put_r13, put_w13, put_r14, put_w14, put_r15, put_w15, put_ra, put_r8, put_r0, put_rt, put_wa, u1, u2, hn8]); omega) ?_)
                      dsimp only [jpush]
                      (try simp (disch := omega) only [put_r6, put_w6, put_r7, put_w7, put_r9, put_w9, put_r10, put_w10, put_r11, put_w11, put_r12, put_w12, put_r13, put_w13, put_r14, put_w14, put_r15, put_w15, put_ra, put_r8, put_r0, put_rt, put_wa, u1, u2, hn8])
                      obtain ⟨s5, e5⟩ : ∃ z, z = pU5 (M 931) n s := ⟨_, rfl⟩
                      have g5 : pMust (M 931) n 2 s4 = s5 := by
                        rw [e5]
                        rw [pU5, ← e4]
                      rw [g5]
                      have k5 := pk_must (k := 2) hT k4.1
                      rw [g5] at k5
                      have q5 := k5.1.rng
                      have v5 := k5.1.2.2.1
                      have a5 : s5.2.2.2.2.2.2 = s4.2.2.2.2.2.2 := k5.2.2.2
                      refine e_aload_n (i := 0) 77 dX12_readUpto_76 rfl rfl rfl ?_
                      refine e_iconst 78 dX12_readUpto_77 rfl ?_
                      refine e_sipush 81 dX12_readUpto_78 (by decide) rfl ?_
                      refine e_callV 84 mt_yX12_reads mv_yX12_reads wd_1430 (by decide) dX12_readUpto_81 at_928 jc_12 rfl rfl rfl (Nat.le_of_ble_eq_true rfl) (jroom (by decide)) rfl (m_reads hT (by (try simp (disch := omega) only [put_r6, put_w6, put_r7, put_w7, put_r9, put_w9, put_r10, put_w10, put_r11, put_w11, put_r12, put_w12, put_r13, put_w13, put_r14, put_w14, put_r15, put_w15, put_ra, put_r8, put_r0, put_rt, put_wa, u1, u2, hn8]); omega) (by (try simp (disch := omega) only [put_r6, put_w6, put_r7, put_w7, put_r9, put_w9, put_r10, put_w10, put_r11, put_w11, put_r12, put_w12, put_r13, put_w13, put_r14, put_w14, put_r15, put_w15, put_ra, put_r8, put_r0, put_rt, put_wa, u1, u2, hn8]); omega) (by (try simp (disch := omega) only [put_r6, put_w6, put_r7, put_w7, put_r9, put_w9, put_r10, put_w10, put_r11, put_w11, put_r12, put_w12, put_r13, put_w13, put_r14, put_w14, put_r15, put_w15, put_ra, put_r8, put_r0, put_rt, put_wa, u1, u2, hn8]); omega) ?_)
                      dsimp only [jpush]
                      (try simp (disch := omega) only [put_r6, put_w6, put_r7, put_w7, put_r9, put_w9, put_r10, put_w10, put_r11, put_w11, put_r12, put_w12, put_r13, put_w13, put_r14, put_w14, put_r15, put_w15, put_ra, put_r8, put_r0, put_rt, put_wa, u1, u2, hn8])
                      obtain ⟨s6, e6⟩ : ∃ z, z = pU6 (M 931) n s := ⟨_, rfl⟩
                      have g6 : pRead (M 931) n 1 999 s5 = s6 := by
                        rw [e6]
                        rw [pU6, ← e5]
                      rw [g6]
                      have k6 := pk_read (lo := 1) (hi := 999) hT k5.1
                      rw [g6] at k6
                      have q6 := k6.1.rng
                      have v6 := k6.1.2.2.1
                      have a6 : s6.2.2.2.2.2.2 = s5.2.2.2.2.2.2 := k6.2.2.2
                      have n6 := k6.1.2.2.2.2.2.2.1
                      have w6 := k6.1.2.2.2.1
                      refine e_istore (lsn := [(4, _), (3, _), (2, _), (1, _), (0, _)]) 86 dX12_readUpto_84 (by decide) rfl rfl ?_
                      refine e_aload_n (i := 0) 87 dX12_readUpto_86 rfl rfl rfl ?_
                      refine e_geti (j := 11) 90 fl_12_123 dX12_readUpto_87 at_928 (by decide) rfl rfl (fun r87 => ?_)
                      simp (disch := omega) only [put_r6, put_w6, put_r7, put_w7, put_r9, put_w9, put_r10, put_w10, put_r11, put_w11, put_r12, put_w12, put_r13, put_w13, put_r14, put_w14, put_r15, put_w15, put_ra, put_r8, put_r0, put_rt, put_wa, u1, u2, hn8] at r87 ⊢
                      refine e_if_eq 93 94 dX12_readUpto_90 (by omega) (by decide) rfl (fun b90 => ?_) (fun b90 => ?_)
                      · first
                         | (exfalso; omega)
                         | (skip
                            refine e_aload_n (i := 0) 95 dX12_readUpto_94 rfl rfl rfl ?_
                            refine e_getr (j := 4) 98 fl_12_24 dX12_readUpto_95 at_928 rfl rfl tp_928_4 rfl ?_
                            refine e_iconst 99 dX12_readUpto_98 rfl ?_
                            refine e_iload_n (i := 1) 100 dX12_readUpto_99 rfl rfl rfl ?_
                            refine e_iadd 101 dX12_readUpto_100 rfl ?_
                            refine e_iload_n (i := 2) 102 dX12_readUpto_101 rfl rfl rfl ?_
                            refine e_iast 103 dX12_readUpto_102 ar_932 (by omega) (by omega) (by omega) rfl ?_
                            refine e_aload_n (i := 0) 104 dX12_readUpto_103 rfl rfl rfl ?_
                            refine e_getr (j := 4) 107 fl_12_24 dX12_readUpto_104 at_928 rfl rfl tp_928_4 rfl ?_
                            refine e_bipush 109 dX12_readUpto_107 (by decide) rfl ?_
                            refine e_iload_n (i := 1) 110 dX12_readUpto_109 rfl rfl rfl ?_
                            refine e_iadd 111 dX12_readUpto_110 rfl ?_
                            refine e_iload_n (i := 3) 112 dX12_readUpto_111 rfl rfl rfl ?_
                            refine e_iast 113 dX12_readUpto_112 ar_932 (by omega) (by omega) (by omega) rfl ?_
                            refine e_aload_n (i := 0) 114 dX12_readUpto_113 rfl rfl rfl ?_
                            refine e_getr (j := 4) 117 fl_12_24 dX12_readUpto_114 at_928 rfl rfl tp_928_4 rfl ?_
                            refine e_bipush 119 dX12_readUpto_117 (by decide) rfl ?_
                            refine e_iload_n (i := 1) 120 dX12_readUpto_119 rfl rfl rfl ?_
                            refine e_iadd 121 dX12_readUpto_120 rfl ?_
                            refine e_iload 123 dX12_readUpto_121 rfl rfl ?_
                            refine e_iast 124 dX12_readUpto_123 ar_932 (by omega) (by omega) (by omega) rfl ?_
                            refine e_aload_n (i := 0) 125 dX12_readUpto_124 rfl rfl rfl ?_
                            refine e_getr (j := 4) 128 fl_12_24 dX12_readUpto_125 at_928 rfl rfl tp_928_4 rfl ?_
                            refine e_iconst 129 dX12_readUpto_128 rfl ?_
                            refine e_dup2 130 dX12_readUpto_129 rfl rfl rfl ?_
                            refine e_iald 131 dX12_readUpto_130 ar_932 (by decide) (by decide) rfl (fun r130 => ?_)
                            simp (disch := omega) only [put_r6, put_w6, put_r7, put_w7, put_r9, put_w9, put_r10, put_w10, put_r11, put_w11, put_r12, put_w12, put_r13, put_w13, put_r14, put_w14, put_r15, put_w15, put_ra, put_r8, put_r0, put_rt, put_wa, u1, u2, hn8] at r130 ⊢
                            refine e_iconst 132 dX12_readUpto_131 rfl ?_
                            refine e_iadd 133 dX12_readUpto_132 rfl ?_
                            refine e_iast 134 dX12_readUpto_133 ar_932 (by decide) (by decide) (by omega) rfl ?_
                            refine e_vret dX12_readUpto_134 ?_
                            rw [pUpto, if_neg (by omega), ← e6, if_neg (by omega), pU7, ← e6, ← e1, ← e3, ← e5] at h
                            simp (disch := omega) only [put_r6, put_w6, put_r7, put_w7, put_r9, put_w9, put_r10, put_w10, put_r11, put_w11, put_r12, put_w12, put_r13, put_w13, put_r14, put_w14, put_r15, put_w15, put_ra, put_r8, put_r0, put_rt, put_wa, u1, u2, hn8]
                            exact h)
                      · first
                         | (exfalso; omega)
                         | (skip
                            refine e_vret dX12_readUpto_93 ?_
                            rw [pUpto, if_neg (by omega), ← e6, if_pos (by omega)] at h
                            exact h)))
          · first
             | (exfalso; omega)
             | (skip
                refine e_vret dX12_readUpto_25 ?_
                rw [pUpto, if_pos (by omega)] at h
                exact h))
    · first
       | (exfalso; omega)
       | (skip
          refine e_aload_n (i := 0) 14 dX12_readUpto_13 rfl rfl rfl ?_
          refine e_iconst 15 dX12_readUpto_14 rfl ?_
          refine e_callV 18 mt_yX12_fails mv_yX12_fails wd_1426 (by decide) dX12_readUpto_15 at_928 jc_12 rfl rfl rfl (Nat.le_of_ble_eq_true rfl) (jroom (by decide)) rfl (m_fails (by (try simp (disch := omega) only [put_r6, put_w6, put_r7, put_w7, put_r9, put_w9, put_r10, put_w10, put_r11, put_w11, put_r12, put_w12, put_r13, put_w13, put_r14, put_w14, put_r15, put_w15, put_ra, put_r8, put_r0, put_rt, put_wa, u1, u2, hn8]); omega) ?_)
          dsimp only [jpush]
          (try simp (disch := omega) only [put_r6, put_w6, put_r7, put_w7, put_r9, put_w9, put_r10, put_w10, put_r11, put_w11, put_r12, put_w12, put_r13, put_w13, put_r14, put_w14, put_r15, put_w15, put_ra, put_r8, put_r0, put_rt, put_wa, u1, u2, hn8])
          refine e_aload_n (i := 0) 19 dX12_readUpto_18 rfl rfl rfl ?_
          refine e_geti (j := 11) 22 fl_12_123 dX12_readUpto_19 at_928 (by decide) rfl rfl (fun r19 => ?_)
          simp (disch := omega) only [put_r6, put_w6, put_r7, put_w7, put_r9, put_w9, put_r10, put_w10, put_r11, put_w11, put_r12, put_w12, put_r13, put_w13, put_r14, put_w14, put_r15, put_w15, put_ra, put_r8, put_r0, put_rt, put_wa, u1, u2, hn8] at r19 ⊢
          refine e_if_eq 25 26 dX12_readUpto_22 (by omega) (by decide) rfl (fun b22 => ?_) (fun b22 => ?_)
          · first
             | (exfalso; omega)
             | (skip
                refine e_aload_n (i := 0) 27 dX12_readUpto_26 rfl rfl rfl ?_
                refine e_callV 30 mt_yX12_next mv_yX12_next wd_1393 (by decide) dX12_readUpto_27 at_928 jc_12 rfl rfl rfl (Nat.le_of_ble_eq_true rfl) (jroom (by decide)) rfl (m_next hT (by (try simp (disch := omega) only [put_r6, put_w6, put_r7, put_w7, put_r9, put_w9, put_r10, put_w10, put_r11, put_w11, put_r12, put_w12, put_r13, put_w13, put_r14, put_w14, put_r15, put_w15, put_ra, put_r8, put_r0, put_rt, put_wa, u1, u2, hn8]); omega) ?_)
                dsimp only [jpush]
                (try simp (disch := omega) only [put_r6, put_w6, put_r7, put_w7, put_r9, put_w9, put_r10, put_w10, put_r11, put_w11, put_r12, put_w12, put_r13, put_w13, put_r14, put_w14, put_r15, put_w15, put_ra, put_r8, put_r0, put_rt, put_wa, u1, u2, hn8])
                obtain ⟨s1, e1⟩ : ∃ z, z = pU1 (M 931) n s := ⟨_, rfl⟩
                have g1 : pNext (M 931) n s = s1 := by
                  rw [e1]
                  rfl
                rw [g1]
                have k1 := (pk_next hT hI hw).1
                rw [g1] at k1
                have q1 := k1.1.rng
                have v1 := k1.1.2.2.1
                have a1 : s1.2.2.2.2.2.2 = s.2.2.2.2.2.2 := k1.2.2.2
                refine e_aload_n (i := 0) 31 dX12_readUpto_30 rfl rfl rfl ?_
                refine e_iload_n (i := 1) 32 dX12_readUpto_31 rfl rfl rfl ?_
                refine e_if_ne 35 39 dX12_readUpto_32 (by omega) (by decide) rfl (fun b32 => ?_) (fun b32 => ?_)
                · omega
                · first
                   | (exfalso; omega)
                   | (skip
                      refine e_iconst 36 dX12_readUpto_35 rfl ?_
                      refine e_goto 51 dX12_readUpto_36 (by decide) ?_
                      refine e_sipush 54 dX12_readUpto_51 (by decide) rfl ?_
                      refine e_callV 57 mt_yX12_reads mv_yX12_reads wd_1430 (by decide) dX12_readUpto_54 at_928 jc_12 rfl rfl rfl (Nat.le_of_ble_eq_true rfl) (jroom (by decide)) rfl (m_reads hT (by (try simp (disch := omega) only [put_r6, put_w6, put_r7, put_w7, put_r9, put_w9, put_r10, put_w10, put_r11, put_w11, put_r12, put_w12, put_r13, put_w13, put_r14, put_w14, put_r15, put_w15, put_ra, put_r8, put_r0, put_rt, put_wa, u1, u2, hn8]); omega) (by (try simp (disch := omega) only [put_r6, put_w6, put_r7, put_w7, put_r9, put_w9, put_r10, put_w10, put_r11, put_w11, put_r12, put_w12, put_r13, put_w13, put_r14, put_w14, put_r15, put_w15, put_ra, put_r8, put_r0, put_rt, put_wa, u1, u2, hn8]); omega) (by (try simp (disch := omega) only [put_r6, put_w6, put_r7, put_w7, put_r9, put_w9, put_r10, put_w10, put_r11, put_w11, put_r12, put_w12, put_r13, put_w13, put_r14, put_w14, put_r15, put_w15, put_ra, put_r8, put_r0, put_rt, put_wa, u1, u2, hn8]); omega) ?_)
                      dsimp only [jpush]
                      (try simp (disch := omega) only [put_r6, put_w6, put_r7, put_w7, put_r9, put_w9, put_r10, put_w10, put_r11, put_w11, put_r12, put_w12, put_r13, put_w13, put_r14, put_w14, put_r15, put_w15, put_ra, put_r8, put_r0, put_rt, put_wa, u1, u2, hn8])
                      obtain ⟨s2, e2⟩ : ∃ z, z = pU2 (M 931) n s := ⟨_, rfl⟩
                      have g2 : pRead (M 931) n 1 999 s1 = s2 := by
                        rw [e2]
                        rw [pU2, if_pos (by omega), ← e1]
                      rw [g2]
                      have k2 := pk_read (lo := 1) (hi := 999) hT k1.1
                      rw [g2] at k2
                      have q2 := k2.1.rng
                      have v2 := k2.1.2.2.1
                      have a2 : s2.2.2.2.2.2.2 = s1.2.2.2.2.2.2 := k2.2.2.2
                      refine e_istore_n (i := 2) (lsn := [(2, _), (1, _), (0, _)]) 58 dX12_readUpto_57 rfl (by decide) rfl rfl ?_
                      refine e_aload_n (i := 0) 59 dX12_readUpto_58 rfl rfl rfl ?_
                      refine e_iconst 60 dX12_readUpto_59 rfl ?_
                      refine e_callV 63 mt_yX12_musts mv_yX12_musts wd_1434 (by decide) dX12_readUpto_60 at_928 jc_12 rfl rfl rfl (Nat.le_of_ble_eq_true rfl) (jroom (by decide)) rfl (m_musts hT (by (try simp (disch := omega) only [put_r6, put_w6, put_r7, put_w7, put_r9, put_w9, put_r10, put_w10, put_r11, put_w11, put_r12, put_w12, put_r13, put_w13, put_r14, put_w14, put_r15, put_w15, put_ra, put_r8, put_r0, put_rt, put_wa, u1, u2, hn8]); omega) (by (try simp (disch := omega) only [put_r6, put_w6, put_r7, put_w7, put_r9, put_w9, put_r10, put_w10, put_r11, put_w11, put_r12, put_w12, put_r13, put_w13, put_r14, put_w14, put_r15, put_w15, put_ra, put_r8, put_r0, put_rt, put_wa, u1, u2, hn8]); omega) ?_)
                      dsimp only [jpush]
                      (try simp (disch := omega) only [put_r6, put_w6, put_r7, put_w7, put_r9, put_w9, put_r10, put_w10, put_r11, put_w11, put_r12, put_w12, put_r13, put_w13, put_r14, put_w14, put_r15, put_w15, put_ra, put_r8, put_r0, put_rt, put_wa, u1, u2, hn8])
                      obtain ⟨s3, e3⟩ : ∃ z, z = pU3 (M 931) n s := ⟨_, rfl⟩
                      have g3 : pMust (M 931) n 1 s2 = s3 := by
                        rw [e3]
                        rw [pU3, ← e2]
                      rw [g3]
                      have k3 := pk_must (k := 1) hT k2.1
                      rw [g3] at k3
                      have q3 := k3.1.rng
                      have v3 := k3.1.2.2.1
                      have a3 : s3.2.2.2.2.2.2 = s2.2.2.2.2.2.2 := k3.2.2.2
                      refine e_aload_n (i := 0) 64 dX12_readUpto_63 rfl rfl rfl ?_
                      refine e_iconst 65 dX12_readUpto_64 rfl ?_
                      refine e_bipush 67 dX12_readUpto_65 (by decide) rfl ?_
                      refine e_callV 70 mt_yX12_reads mv_yX12_reads wd_1430 (by decide) dX12_readUpto_67 at_928 jc_12 rfl rfl rfl (Nat.le_of_ble_eq_true rfl) (jroom (by decide)) rfl (m_reads hT (by (try simp (disch := omega) only [put_r6, put_w6, put_r7, put_w7, put_r9, put_w9, put_r10, put_w10, put_r11, put_w11, put_r12, put_w12, put_r13, put_w13, put_r14, put_w14, put_r15, put_w15, put_ra, put_r8, put_r0, put_rt, put_wa, u1, u2, hn8]); omega) (by (try simp (disch := omega) only [put_r6, put_w6, put_r7, put_w7, put_r9, put_w9, put_r10, put_w10, put_r11, put_w11, put_r12, put_w12, put_r13, put_w13, put_r14, put_w14, put_r15, put_w15, put_ra, put_r8, put_r0, put_rt, put_wa, u1, u2, hn8]); omega) (by (try simp (disch := omega) only [put_r6, put_w6, put_r7, put_w7, put_r9, put_w9, put_r10, put_w10, put_r11, put_w11, put_r12, put_w12, put_r13, put_w13, put_r14, put_w14, put_r15, put_w15, put_ra, put_r8, put_r0, put_rt, put_wa, u1, u2, hn8]); omega) ?_)
                      dsimp only [jpush]
                      (try simp (disch := omega) only [put_r6, put_w6, put_r7, put_w7, put_r9, put_w9, put_r10, put_w10, put_r11, put_w11, put_r12, put_w12, put_r13, put_w13, put_r14, put_w14, put_r15, put_w15, put_ra, put_r8, put_r0, put_rt, put_wa, u1, u2, hn8])
                      obtain ⟨s4, e4⟩ : ∃ z, z = pU4 (M 931) n s := ⟨_, rfl⟩
                      have g4 : pRead (M 931) n 0 99 s3 = s4 := by
                        rw [e4]
                        rw [pU4, ← e3]
                      rw [g4]
                      have k4 := pk_read (lo := 0) (hi := 99) hT k3.1
                      rw [g4] at k4
                      have q4 := k4.1.rng
                      have v4 := k4.1.2.2.1
                      have a4 : s4.2.2.2.2.2.2 = s3.2.2.2.2.2.2 := k4.2.2.2
                      refine e_istore_n (i := 3) (lsn := [(3, _), (2, _), (1, _), (0, _)]) 71 dX12_readUpto_70 rfl (by decide) rfl rfl ?_
                      refine e_aload_n (i := 0) 72 dX12_readUpto_71 rfl rfl rfl ?_
                      refine e_iconst 73 dX12_readUpto_72 rfl ?_
                      refine e_callV 76 mt_yX12_musts mv_yX12_musts wd_1434 (by decide) dX12_readUpto_73 at_928 jc_12 rfl rfl rfl (Nat.le_of_ble_eq_true rfl) (jroom (by decide)) rfl (m_musts hT (by (try simp (disch := omega) only [put_r6, put_w6, put_r7, put_w7, put_r9, put_w9, put_r10, put_w10, put_r11, put_w11, put_r12, put_w12, put_r13, put_w13, put_r14, put_w14, put_r15, put_w15, put_ra, put_r8, put_r0, put_rt, put_wa, u1, u2, hn8]); omega) (by (try simp (disch := omega) only [put_r6, put_w6, put_r7, put_w7, put_r9, put_w9, put_r10, put_w10, put_r11, put_w11, put_r12, put_w12, put_r13, put_w13, put_r14, put_w14, put_r15, put_w15, put_ra, put_r8, put_r0, put_rt, put_wa, u1, u2, hn8]); omega) ?_)
                      dsimp only [jpush]
                      (try simp (disch := omega) only [put_r6, put_w6, put_r7, put_w7, put_r9, put_w9, put_r10, put_w10, put_r11, put_w11, put_r12, put_w12, put_r13, put_w13, put_r14, put_w14, put_r15, put_w15, put_ra, put_r8, put_r0, put_rt, put_wa, u1, u2, hn8])
                      obtain ⟨s5, e5⟩ : ∃ z, z = pU5 (M 931) n s := ⟨_, rfl⟩
                      have g5 : pMust (M 931) n 2 s4 = s5 := by
                        rw [e5]
                        rw [pU5, ← e4]
                      rw [g5]
                      have k5 := pk_must (k := 2) hT k4.1
                      rw [g5] at k5
                      have q5 := k5.1.rng
                      have v5 := k5.1.2.2.1
                      have a5 : s5.2.2.2.2.2.2 = s4.2.2.2.2.2.2 := k5.2.2.2
                      refine e_aload_n (i := 0) 77 dX12_readUpto_76 rfl rfl rfl ?_
                      refine e_iconst 78 dX12_readUpto_77 rfl ?_
                      refine e_sipush 81 dX12_readUpto_78 (by decide) rfl ?_
                      refine e_callV 84 mt_yX12_reads mv_yX12_reads wd_1430 (by decide) dX12_readUpto_81 at_928 jc_12 rfl rfl rfl (Nat.le_of_ble_eq_true rfl) (jroom (by decide)) rfl (m_reads hT (by (try simp (disch := omega) only [put_r6, put_w6, put_r7, put_w7, put_r9, put_w9, put_r10, put_w10, put_r11, put_w11, put_r12, put_w12, put_r13, put_w13, put_r14, put_w14, put_r15, put_w15, put_ra, put_r8, put_r0, put_rt, put_wa, u1, u2, hn8]); omega) (by (try simp (disch := omega) only [put_r6, put_w6, put_r7, put_w7, put_r9, put_w9, put_r10, put_w10, put_r11, put_w11, put_r12, put_w12, put_r13, put_w13, put_r14, put_w14, put_r15, put_w15, put_ra, put_r8, put_r0, put_rt, put_wa, u1, u2, hn8]); omega) (by (try simp (disch := omega) only [put_r6, put_w6, put_r7, put_w7, put_r9, put_w9, put_r10, put_w10, put_r11, put_w11, put_r12, put_w12, put_r13, put_w13, put_r14, put_w14, put_r15, put_w15, put_ra, put_r8, put_r0, put_rt, put_wa, u1, u2, hn8]); omega) ?_)
                      dsimp only [jpush]
                      (try simp (disch := omega) only [put_r6, put_w6, put_r7, put_w7, put_r9, put_w9, put_r10, put_w10, put_r11, put_w11, put_r12, put_w12, put_r13, put_w13, put_r14, put_w14, put_r15, put_w15, put_ra, put_r8, put_r0, put_rt, put_wa, u1, u2, hn8])
                      obtain ⟨s6, e6⟩ : ∃ z, z = pU6 (M 931) n s := ⟨_, rfl⟩
                      have g6 : pRead (M 931) n 1 999 s5 = s6 := by
                        rw [e6]
                        rw [pU6, ← e5]
                      rw [g6]
                      have k6 := pk_read (lo := 1) (hi := 999) hT k5.1
                      rw [g6] at k6
                      have q6 := k6.1.rng
                      have v6 := k6.1.2.2.1
                      have a6 : s6.2.2.2.2.2.2 = s5.2.2.2.2.2.2 := k6.2.2.2
                      have n6 := k6.1.2.2.2.2.2.2.1
                      have w6 := k6.1.2.2.2.1
                      refine e_istore (lsn := [(4, _), (3, _), (2, _), (1, _), (0, _)]) 86 dX12_readUpto_84 (by decide) rfl rfl ?_
                      refine e_aload_n (i := 0) 87 dX12_readUpto_86 rfl rfl rfl ?_
                      refine e_geti (j := 11) 90 fl_12_123 dX12_readUpto_87 at_928 (by decide) rfl rfl (fun r87 => ?_)
                      simp (disch := omega) only [put_r6, put_w6, put_r7, put_w7, put_r9, put_w9, put_r10, put_w10, put_r11, put_w11, put_r12, put_w12, put_r13, put_w13, put_r14, put_w14, put_r15, put_w15, put_ra, put_r8, put_r0, put_rt, put_wa, u1, u2, hn8] at r87 ⊢
                      refine e_if_eq 93 94 dX12_readUpto_90 (by omega) (by decide) rfl (fun b90 => ?_) (fun b90 => ?_)
                      · first
                         | (exfalso; omega)
                         | (skip
                            refine e_aload_n (i := 0) 95 dX12_readUpto_94 rfl rfl rfl ?_
                            refine e_getr (j := 4) 98 fl_12_24 dX12_readUpto_95 at_928 rfl rfl tp_928_4 rfl ?_
                            refine e_iconst 99 dX12_readUpto_98 rfl ?_
                            refine e_iload_n (i := 1) 100 dX12_readUpto_99 rfl rfl rfl ?_
                            refine e_iadd 101 dX12_readUpto_100 rfl ?_
                            refine e_iload_n (i := 2) 102 dX12_readUpto_101 rfl rfl rfl ?_
                            refine e_iast 103 dX12_readUpto_102 ar_932 (by omega) (by omega) (by omega) rfl ?_
                            refine e_aload_n (i := 0) 104 dX12_readUpto_103 rfl rfl rfl ?_
                            refine e_getr (j := 4) 107 fl_12_24 dX12_readUpto_104 at_928 rfl rfl tp_928_4 rfl ?_
                            refine e_bipush 109 dX12_readUpto_107 (by decide) rfl ?_
                            refine e_iload_n (i := 1) 110 dX12_readUpto_109 rfl rfl rfl ?_
                            refine e_iadd 111 dX12_readUpto_110 rfl ?_
                            refine e_iload_n (i := 3) 112 dX12_readUpto_111 rfl rfl rfl ?_
                            refine e_iast 113 dX12_readUpto_112 ar_932 (by omega) (by omega) (by omega) rfl ?_
                            refine e_aload_n (i := 0) 114 dX12_readUpto_113 rfl rfl rfl ?_
                            refine e_getr (j := 4) 117 fl_12_24 dX12_readUpto_114 at_928 rfl rfl tp_928_4 rfl ?_
                            refine e_bipush 119 dX12_readUpto_117 (by decide) rfl ?_
                            refine e_iload_n (i := 1) 120 dX12_readUpto_119 rfl rfl rfl ?_
                            refine e_iadd 121 dX12_readUpto_120 rfl ?_
                            refine e_iload 123 dX12_readUpto_121 rfl rfl ?_
                            refine e_iast 124 dX12_readUpto_123 ar_932 (by omega) (by omega) (by omega) rfl ?_
                            refine e_aload_n (i := 0) 125 dX12_readUpto_124 rfl rfl rfl ?_
                            refine e_getr (j := 4) 128 fl_12_24 dX12_readUpto_125 at_928 rfl rfl tp_928_4 rfl ?_
                            refine e_iconst 129 dX12_readUpto_128 rfl ?_
                            refine e_dup2 130 dX12_readUpto_129 rfl rfl rfl ?_
                            refine e_iald 131 dX12_readUpto_130 ar_932 (by decide) (by decide) rfl (fun r130 => ?_)
                            simp (disch := omega) only [put_r6, put_w6, put_r7, put_w7, put_r9, put_w9, put_r10, put_w10, put_r11, put_w11, put_r12, put_w12, put_r13, put_w13, put_r14, put_w14, put_r15, put_w15, put_ra, put_r8, put_r0, put_rt, put_wa, u1, u2, hn8] at r130 ⊢
                            refine e_iconst 132 dX12_readUpto_131 rfl ?_
                            refine e_iadd 133 dX12_readUpto_132 rfl ?_
                            refine e_iast 134 dX12_readUpto_133 ar_932 (by decide) (by decide) (by omega) rfl ?_
                            refine e_vret dX12_readUpto_134 ?_
                            rw [pUpto, if_neg (by omega), ← e6, if_neg (by omega), pU7, ← e6, ← e1, ← e3, ← e5] at h
                            simp (disch := omega) only [put_r6, put_w6, put_r7, put_w7, put_r9, put_w9, put_r10, put_w10, put_r11, put_w11, put_r12, put_w12, put_r13, put_w13, put_r14, put_w14, put_r15, put_w15, put_ra, put_r8, put_r0, put_rt, put_wa, u1, u2, hn8]
                            exact h)
                      · first
                         | (exfalso; omega)
                         | (skip
                            refine e_vret dX12_readUpto_93 ?_
                            rw [pUpto, if_neg (by omega), ← e6, if_pos (by omega)] at h
                            exact h)))
          · first
             | (exfalso; omega)
             | (skip
                refine e_vret dX12_readUpto_25 ?_
                rw [pUpto, if_pos (by omega)] at h
                exact h))
  case neg =>
    refine e_aload_n (i := 0) 1 dX12_readUpto_0 rfl rfl rfl ?_
    refine e_getr (j := 4) 4 fl_12_24 dX12_readUpto_1 at_928 rfl rfl tp_928_4 rfl ?_
    refine e_iconst 5 dX12_readUpto_4 rfl ?_
    refine e_iald 6 dX12_readUpto_5 ar_932 (by decide) (by decide) rfl (fun r5 => ?_)
    simp (disch := omega) only [put_r6, put_w6, put_r7, put_w7, put_r9, put_w9, put_r10, put_w10, put_r11, put_w11, put_r12, put_w12, put_r13, put_w13, put_r14, put_w14, put_r15, put_w15, put_ra, put_r8, put_r0, put_rt, put_wa, u1, u2, hn8] at r5 ⊢
    refine e_istore_n (i := 1) (lsn := [(1, _), (0, _)]) 7 dX12_readUpto_6 rfl (by decide) rfl rfl ?_
    refine e_iload_n (i := 1) 8 dX12_readUpto_7 rfl rfl rfl ?_
    refine e_bipush 10 dX12_readUpto_8 (by decide) rfl ?_
    refine e_icmp_ne 13 18 dX12_readUpto_10 (by omega) (by decide) (by decide) rfl (fun b10 => ?_) (fun b10 => ?_)
    · first
       | (exfalso; omega)
       | (skip
          refine e_aload_n (i := 0) 19 dX12_readUpto_18 rfl rfl rfl ?_
          refine e_geti (j := 11) 22 fl_12_123 dX12_readUpto_19 at_928 (by decide) rfl rfl (fun r19 => ?_)
          simp (disch := omega) only [put_r6, put_w6, put_r7, put_w7, put_r9, put_w9, put_r10, put_w10, put_r11, put_w11, put_r12, put_w12, put_r13, put_w13, put_r14, put_w14, put_r15, put_w15, put_ra, put_r8, put_r0, put_rt, put_wa, u1, u2, hn8] at r19 ⊢
          refine e_if_eq 25 26 dX12_readUpto_22 (by omega) (by decide) rfl (fun b22 => ?_) (fun b22 => ?_)
          · first
             | (exfalso; omega)
             | (skip
                refine e_aload_n (i := 0) 27 dX12_readUpto_26 rfl rfl rfl ?_
                refine e_callV 30 mt_yX12_next mv_yX12_next wd_1393 (by decide) dX12_readUpto_27 at_928 jc_12 rfl rfl rfl (Nat.le_of_ble_eq_true rfl) (jroom (by decide)) rfl (m_next hT (by (try simp (disch := omega) only [put_r6, put_w6, put_r7, put_w7, put_r9, put_w9, put_r10, put_w10, put_r11, put_w11, put_r12, put_w12, put_r13, put_w13, put_r14, put_w14, put_r15, put_w15, put_ra, put_r8, put_r0, put_rt, put_wa, u1, u2, hn8]); omega) ?_)
                dsimp only [jpush]
                (try simp (disch := omega) only [put_r6, put_w6, put_r7, put_w7, put_r9, put_w9, put_r10, put_w10, put_r11, put_w11, put_r12, put_w12, put_r13, put_w13, put_r14, put_w14, put_r15, put_w15, put_ra, put_r8, put_r0, put_rt, put_wa, u1, u2, hn8])
                obtain ⟨s1, e1⟩ : ∃ z, z = pU1 (M 931) n s := ⟨_, rfl⟩
                have g1 : pNext (M 931) n s = s1 := by
                  rw [e1]
                  rfl
                rw [g1]
                have k1 := (pk_next hT hI hw).1
                rw [g1] at k1
                have q1 := k1.1.rng
                have v1 := k1.1.2.2.1
                have a1 : s1.2.2.2.2.2.2 = s.2.2.2.2.2.2 := k1.2.2.2
                refine e_aload_n (i := 0) 31 dX12_readUpto_30 rfl rfl rfl ?_
                refine e_iload_n (i := 1) 32 dX12_readUpto_31 rfl rfl rfl ?_
                refine e_if_ne 35 39 dX12_readUpto_32 (by omega) (by decide) rfl (fun b32 => ?_) (fun b32 => ?_)
                · first
                   | (exfalso; omega)
                   | (skip
                      refine e_aload_n (i := 0) 40 dX12_readUpto_39 rfl rfl rfl ?_
                      refine e_getr (j := 4) 43 fl_12_24 dX12_readUpto_40 at_928 rfl rfl tp_928_4 rfl ?_
                      refine e_iconst 44 dX12_readUpto_43 rfl ?_
                      refine e_iload_n (i := 1) 45 dX12_readUpto_44 rfl rfl rfl ?_
                      refine e_iadd 46 dX12_readUpto_45 rfl ?_
                      refine e_iconst 47 dX12_readUpto_46 rfl ?_
                      refine e_isub 48 dX12_readUpto_47 rfl ?_
                      refine e_iald 49 dX12_readUpto_48 ar_932 (by omega) (by omega) rfl (fun r48 => ?_)
                      simp (disch := omega) only [put_r6, put_w6, put_r7, put_w7, put_r9, put_w9, put_r10, put_w10, put_r11, put_w11, put_r12, put_w12, put_r13, put_w13, put_r14, put_w14, put_r15, put_w15, put_ra, put_r8, put_r0, put_rt, put_wa, u1, u2, hn8] at r48 ⊢
                      have a1a : s1.2.2.2.2.2.2.2.2.2 = s.2.2.2.2.2.2.2.2.2 := congrArg (fun z => z.2.2.2) a1
                      rw [a1a] at r48 ⊢
                      refine e_iconst 50 dX12_readUpto_49 rfl ?_
                      refine e_iadd 51 dX12_readUpto_50 rfl ?_
                      refine e_sipush 54 dX12_readUpto_51 (by decide) rfl ?_
                      refine e_callV 57 mt_yX12_reads mv_yX12_reads wd_1430 (by decide) dX12_readUpto_54 at_928 jc_12 rfl rfl rfl (Nat.le_of_ble_eq_true rfl) (jroom (by decide)) rfl (m_reads hT (by (try simp (disch := omega) only [put_r6, put_w6, put_r7, put_w7, put_r9, put_w9, put_r10, put_w10, put_r11, put_w11, put_r12, put_w12, put_r13, put_w13, put_r14, put_w14, put_r15, put_w15, put_ra, put_r8, put_r0, put_rt, put_wa, u1, u2, hn8]); omega) (by (try simp (disch := omega) only [put_r6, put_w6, put_r7, put_w7, put_r9, put_w9, put_r10, put_w10, put_r11, put_w11, put_r12, put_w12, put_r13, put_w13, put_r14, put_w14, put_r15, put_w15, put_ra, put_r8, put_r0, put_rt, put_wa, u1, u2, hn8]); omega) (by (try simp (disch := omega) only [put_r6, put_w6, put_r7, put_w7, put_r9, put_w9, put_r10, put_w10, put_r11, put_w11, put_r12, put_w12, put_r13, put_w13, put_r14, put_w14, put_r15, put_w15, put_ra, put_r8, put_r0, put_rt, put_wa, u1, u2, hn8]); omega) ?_)
                      dsimp only [jpush]
                      (try simp (disch := omega) only [put_r6, put_w6, put_r7, put_w7, put_r9, put_w9, put_r10, put_w10, put_r11, put_w11, put_r12, put_w12, put_r13, put_w13, put_r14, put_w14, put_r15, put_w15, put_ra, put_r8, put_r0, put_rt, put_wa, u1, u2, hn8])
                      obtain ⟨s2, e2⟩ : ∃ z, z = pU2 (M 931) n s := ⟨_, rfl⟩
                      have g2 : pRead (M 931) n (s.2.2.2.2.2.2.2.2.2 (1 + s.2.2.2.2.2.2.2.2.2 0 - 1) + 1) 999 s1 = s2 := by
                        rw [e2]
                        rw [pU2, if_neg (by omega), ← e1]
                      rw [g2]
                      have k2 := pk_read (lo := (s.2.2.2.2.2.2.2.2.2 (1 + s.2.2.2.2.2.2.2.2.2 0 - 1) + 1)) (hi := 999) hT k1.1
                      rw [g2] at k2
                      have q2 := k2.1.rng
                      have v2 := k2.1.2.2.1
                      have a2 : s2.2.2.2.2.2.2 = s1.2.2.2.2.2.2 := k2.2.2.2
                      refine e_istore_n (i := 2) (lsn := [(2, _), (1, _), (0, _)]) 58 dX12_readUpto_57 rfl (by decide) rfl rfl ?_
                      refine e_aload_n (i := 0) 59 dX12_readUpto_58 rfl rfl rfl ?_
                      refine e_iconst 60 dX12_readUpto_59 rfl ?_
                      refine e_callV 63 mt_yX12_musts mv_yX12_musts wd_1434 (by decide) dX12_readUpto_60 at_928 jc_12 rfl rfl rfl (Nat.le_of_ble_eq_true rfl) (jroom (by decide)) rfl (m_musts hT (by (try simp (disch := omega) only [put_r6, put_w6, put_r7, put_w7, put_r9, put_w9, put_r10, put_w10, put_r11, put_w11, put_r12, put_w12, put_r13, put_w13, put_r14, put_w14, put_r15, put_w15, put_ra, put_r8, put_r0, put_rt, put_wa, u1, u2, hn8]); omega) (by (try simp (disch := omega) only [put_r6, put_w6, put_r7, put_w7, put_r9, put_w9, put_r10, put_w10, put_r11, put_w11, put_r12, put_w12, put_r13, put_w13, put_r14, put_w14, put_r15, put_w15, put_ra, put_r8, put_r0, put_rt, put_wa, u1, u2, hn8]); omega) ?_)
                      dsimp only [jpush]
                      (try simp (disch := omega) only [put_r6, put_w6, put_r7, put_w7, put_r9, put_w9, put_r10, put_w10, put_r11, put_w11, put_r12, put_w12, put_r13, put_w13, put_r14, put_w14, put_r15, put_w15, put_ra, put_r8, put_r0, put_rt, put_wa, u1, u2, hn8])
                      obtain ⟨s3, e3⟩ : ∃ z, z = pU3 (M 931) n s := ⟨_, rfl⟩
                      have g3 : pMust (M 931) n 1 s2 = s3 := by
                        rw [e3]
                        rw [pU3, ← e2]
                      rw [g3]
                      have k3 := pk_must (k := 1) hT k2.1
                      rw [g3] at k3
                      have q3 := k3.1.rng
                      have v3 := k3.1.2.2.1
                      have a3 : s3.2.2.2.2.2.2 = s2.2.2.2.2.2.2 := k3.2.2.2
                      refine e_aload_n (i := 0) 64 dX12_readUpto_63 rfl rfl rfl ?_
                      refine e_iconst 65 dX12_readUpto_64 rfl ?_
                      refine e_bipush 67 dX12_readUpto_65 (by decide) rfl ?_
                      refine e_callV 70 mt_yX12_reads mv_yX12_reads wd_1430 (by decide) dX12_readUpto_67 at_928 jc_12 rfl rfl rfl (Nat.le_of_ble_eq_true rfl) (jroom (by decide)) rfl (m_reads hT (by (try simp (disch := omega) only [put_r6, put_w6, put_r7, put_w7, put_r9, put_w9, put_r10, put_w10, put_r11, put_w11, put_r12, put_w12, put_r13, put_w13, put_r14, put_w14, put_r15, put_w15, put_ra, put_r8, put_r0, put_rt, put_wa, u1, u2, hn8]); omega) (by (try simp (disch := omega) only [put_r6, put_w6, put_r7, put_w7, put_r9, put_w9, put_r10, put_w10, put_r11, put_w11, put_r12, put_w12, put_r13, put_w13, put_r14, put_w14, put_r15, put_w15, put_ra, put_r8, put_r0, put_rt, put_wa, u1, u2, hn8]); omega) (by (try simp (disch := omega) only [put_r6, put_w6, put_r7, put_w7, put_r9, put_w9, put_r10, put_w10, put_r11, put_w11, put_r12, put_w12, put_r13, put_w13, put_r14, put_w14, put_r15, put_w15, put_ra, put_r8, put_r0, put_rt, put_wa, u1, u2, hn8]); omega) ?_)
                      dsimp only [jpush]
                      (try simp (disch := omega) only [put_r6, put_w6, put_r7, put_w7, put_r9, put_w9, put_r10, put_w10, put_r11, put_w11, put_r12, put_w12, put_r13, put_w13, put_r14, put_w14, put_r15, put_w15, put_ra, put_r8, put_r0, put_rt, put_wa, u1, u2, hn8])
                      obtain ⟨s4, e4⟩ : ∃ z, z = pU4 (M 931) n s := ⟨_, rfl⟩
                      have g4 : pRead (M 931) n 0 99 s3 = s4 := by
                        rw [e4]
                        rw [pU4, ← e3]
                      rw [g4]
                      have k4 := pk_read (lo := 0) (hi := 99) hT k3.1
                      rw [g4] at k4
                      have q4 := k4.1.rng
                      have v4 := k4.1.2.2.1
                      have a4 : s4.2.2.2.2.2.2 = s3.2.2.2.2.2.2 := k4.2.2.2
                      refine e_istore_n (i := 3) (lsn := [(3, _), (2, _), (1, _), (0, _)]) 71 dX12_readUpto_70 rfl (by decide) rfl rfl ?_
                      refine e_aload_n (i := 0) 72 dX12_readUpto_71 rfl rfl rfl ?_
                      refine e_iconst 73 dX12_readUpto_72 rfl ?_
                      refine e_callV 76 mt_yX12_musts mv_yX12_musts wd_1434 (by decide) dX12_readUpto_73 at_928 jc_12 rfl rfl rfl (Nat.le_of_ble_eq_true rfl) (jroom (by decide)) rfl (m_musts hT (by (try simp (disch := omega) only [put_r6, put_w6, put_r7, put_w7, put_r9, put_w9, put_r10, put_w10, put_r11, put_w11, put_r12, put_w12, put_r13, put_w13, put_r14, put_w14, put_r15, put_w15, put_ra, put_r8, put_r0, put_rt, put_wa, u1, u2, hn8]); omega) (by (try simp (disch := omega) only [put_r6, put_w6, put_r7, put_w7, put_r9, put_w9, put_r10, put_w10, put_r11, put_w11, put_r12, put_w12, put_r13, put_w13, put_r14, put_w14, put_r15, put_w15, put_ra, put_r8, put_r0, put_rt, put_wa, u1, u2, hn8]); omega) ?_)
                      dsimp only [jpush]
                      (try simp (disch := omega) only [put_r6, put_w6, put_r7, put_w7, put_r9, put_w9, put_r10, put_w10, put_r11, put_w11, put_r12, put_w12, put_r13, put_w13, put_r14, put_w14, put_r15, put_w15, put_ra, put_r8, put_r0, put_rt, put_wa, u1, u2, hn8])
                      obtain ⟨s5, e5⟩ : ∃ z, z = pU5 (M 931) n s := ⟨_, rfl⟩
                      have g5 : pMust (M 931) n 2 s4 = s5 := by
                        rw [e5]
                        rw [pU5, ← e4]
                      rw [g5]
                      have k5 := pk_must (k := 2) hT k4.1
                      rw [g5] at k5
                      have q5 := k5.1.rng
                      have v5 := k5.1.2.2.1
                      have a5 : s5.2.2.2.2.2.2 = s4.2.2.2.2.2.2 := k5.2.2.2
                      refine e_aload_n (i := 0) 77 dX12_readUpto_76 rfl rfl rfl ?_
                      refine e_iconst 78 dX12_readUpto_77 rfl ?_
                      refine e_sipush 81 dX12_readUpto_78 (by decide) rfl ?_
                      refine e_callV 84 mt_yX12_reads mv_yX12_reads wd_1430 (by decide) dX12_readUpto_81 at_928 jc_12 rfl rfl rfl (Nat.le_of_ble_eq_true rfl) (jroom (by decide)) rfl (m_reads hT (by (try simp (disch := omega) only [put_r6, put_w6, put_r7, put_w7, put_r9, put_w9, put_r10, put_w10, put_r11, put_w11, put_r12, put_w12, put_r13, put_w13, put_r14, put_w14, put_r15, put_w15, put_ra, put_r8, put_r0, put_rt, put_wa, u1, u2, hn8]); omega) (by (try simp (disch := omega) only [put_r6, put_w6, put_r7, put_w7, put_r9, put_w9, put_r10, put_w10, put_r11, put_w11, put_r12, put_w12, put_r13, put_w13, put_r14, put_w14, put_r15, put_w15, put_ra, put_r8, put_r0, put_rt, put_wa, u1, u2, hn8]); omega) (by (try simp (disch := omega) only [put_r6, put_w6, put_r7, put_w7, put_r9, put_w9, put_r10, put_w10, put_r11, put_w11, put_r12, put_w12, put_r13, put_w13, put_r14, put_w14, put_r15, put_w15, put_ra, put_r8, put_r0, put_rt, put_wa, u1, u2, hn8]); omega) ?_)
                      dsimp only [jpush]
                      (try simp (disch := omega) only [put_r6, put_w6, put_r7, put_w7, put_r9, put_w9, put_r10, put_w10, put_r11, put_w11, put_r12, put_w12, put_r13, put_w13, put_r14, put_w14, put_r15, put_w15, put_ra, put_r8, put_r0, put_rt, put_wa, u1, u2, hn8])
                      obtain ⟨s6, e6⟩ : ∃ z, z = pU6 (M 931) n s := ⟨_, rfl⟩
                      have g6 : pRead (M 931) n 1 999 s5 = s6 := by
                        rw [e6]
                        rw [pU6, ← e5]
                      rw [g6]
                      have k6 := pk_read (lo := 1) (hi := 999) hT k5.1
                      rw [g6] at k6
                      have q6 := k6.1.rng
                      have v6 := k6.1.2.2.1
                      have a6 : s6.2.2.2.2.2.2 = s5.2.2.2.2.2.2 := k6.2.2.2
                      have n6 := k6.1.2.2.2.2.2.2.1
                      have w6 := k6.1.2.2.2.1
                      refine e_istore (lsn := [(4, _), (3, _), (2, _), (1, _), (0, _)]) 86 dX12_readUpto_84 (by decide) rfl rfl ?_
                      refine e_aload_n (i := 0) 87 dX12_readUpto_86 rfl rfl rfl ?_
                      refine e_geti (j := 11) 90 fl_12_123 dX12_readUpto_87 at_928 (by decide) rfl rfl (fun r87 => ?_)
                      simp (disch := omega) only [put_r6, put_w6, put_r7, put_w7, put_r9, put_w9, put_r10, put_w10, put_r11, put_w11, put_r12, put_w12, put_r13, put_w13, put_r14, put_w14, put_r15, put_w15, put_ra, put_r8, put_r0, put_rt, put_wa, u1, u2, hn8] at r87 ⊢
                      refine e_if_eq 93 94 dX12_readUpto_90 (by omega) (by decide) rfl (fun b90 => ?_) (fun b90 => ?_)
                      · first
                         | (exfalso; omega)
                         | (skip
                            refine e_aload_n (i := 0) 95 dX12_readUpto_94 rfl rfl rfl ?_
                            refine e_getr (j := 4) 98 fl_12_24 dX12_readUpto_95 at_928 rfl rfl tp_928_4 rfl ?_
                            refine e_iconst 99 dX12_readUpto_98 rfl ?_
                            refine e_iload_n (i := 1) 100 dX12_readUpto_99 rfl rfl rfl ?_
                            refine e_iadd 101 dX12_readUpto_100 rfl ?_
                            refine e_iload_n (i := 2) 102 dX12_readUpto_101 rfl rfl rfl ?_
                            refine e_iast 103 dX12_readUpto_102 ar_932 (by omega) (by omega) (by omega) rfl ?_
                            refine e_aload_n (i := 0) 104 dX12_readUpto_103 rfl rfl rfl ?_
                            refine e_getr (j := 4) 107 fl_12_24 dX12_readUpto_104 at_928 rfl rfl tp_928_4 rfl ?_
                            refine e_bipush 109 dX12_readUpto_107 (by decide) rfl ?_
                            refine e_iload_n (i := 1) 110 dX12_readUpto_109 rfl rfl rfl ?_
                            refine e_iadd 111 dX12_readUpto_110 rfl ?_
                            refine e_iload_n (i := 3) 112 dX12_readUpto_111 rfl rfl rfl ?_
                            refine e_iast 113 dX12_readUpto_112 ar_932 (by omega) (by omega) (by omega) rfl ?_
                            refine e_aload_n (i := 0) 114 dX12_readUpto_113 rfl rfl rfl ?_
                            refine e_getr (j := 4) 117 fl_12_24 dX12_readUpto_114 at_928 rfl rfl tp_928_4 rfl ?_
                            refine e_bipush 119 dX12_readUpto_117 (by decide) rfl ?_
                            refine e_iload_n (i := 1) 120 dX12_readUpto_119 rfl rfl rfl ?_
                            refine e_iadd 121 dX12_readUpto_120 rfl ?_
                            refine e_iload 123 dX12_readUpto_121 rfl rfl ?_
                            refine e_iast 124 dX12_readUpto_123 ar_932 (by omega) (by omega) (by omega) rfl ?_
                            refine e_aload_n (i := 0) 125 dX12_readUpto_124 rfl rfl rfl ?_
                            refine e_getr (j := 4) 128 fl_12_24 dX12_readUpto_125 at_928 rfl rfl tp_928_4 rfl ?_
                            refine e_iconst 129 dX12_readUpto_128 rfl ?_
                            refine e_dup2 130 dX12_readUpto_129 rfl rfl rfl ?_
                            refine e_iald 131 dX12_readUpto_130 ar_932 (by decide) (by decide) rfl (fun r130 => ?_)
                            simp (disch := omega) only [put_r6, put_w6, put_r7, put_w7, put_r9, put_w9, put_r10, put_w10, put_r11, put_w11, put_r12, put_w12, put_r13, put_w13, put_r14, put_w14, put_r15, put_w15, put_ra, put_r8, put_r0, put_rt, put_wa, u1, u2, hn8] at r130 ⊢
                            refine e_iconst 132 dX12_readUpto_131 rfl ?_
                            refine e_iadd 133 dX12_readUpto_132 rfl ?_
                            refine e_iast 134 dX12_readUpto_133 ar_932 (by decide) (by decide) (by omega) rfl ?_
                            refine e_vret dX12_readUpto_134 ?_
                            rw [pUpto, if_neg (by omega), ← e6, if_neg (by omega), pU7, ← e6, ← e1, ← e3, ← e5] at h
                            simp (disch := omega) only [put_r6, put_w6, put_r7, put_w7, put_r9, put_w9, put_r10, put_w10, put_r11, put_w11, put_r12, put_w12, put_r13, put_w13, put_r14, put_w14, put_r15, put_w15, put_ra, put_r8, put_r0, put_rt, put_wa, u1, u2, hn8]
                            exact h)
                      · first
                         | (exfalso; omega)
                         | (skip
                            refine e_vret dX12_readUpto_93 ?_
                            rw [pUpto, if_neg (by omega), ← e6, if_pos (by omega)] at h
                            exact h))
                · omega)
          · first
             | (exfalso; omega)
             | (skip
                refine e_vret dX12_readUpto_25 ?_
                rw [pUpto, if_pos (by omega)] at h
                exact h))
    · first
       | (exfalso; omega)
       | (skip
          refine e_aload_n (i := 0) 14 dX12_readUpto_13 rfl rfl rfl ?_
          refine e_iconst 15 dX12_readUpto_14 rfl ?_
          refine e_callV 18 mt_yX12_fails mv_yX12_fails wd_1426 (by decide) dX12_readUpto_15 at_928 jc_12 rfl rfl rfl (Nat.le_of_ble_eq_true rfl) (jroom (by decide)) rfl (m_fails (by (try simp (disch := omega) only [put_r6, put_w6, put_r7, put_w7, put_r9, put_w9, put_r10, put_w10, put_r11, put_w11, put_r12, put_w12, put_r13, put_w13, put_r14, put_w14, put_r15, put_w15, put_ra, put_r8, put_r0, put_rt, put_wa, u1, u2, hn8]); omega) ?_)
          dsimp only [jpush]
          (try simp (disch := omega) only [put_r6, put_w6, put_r7, put_w7, put_r9, put_w9, put_r10, put_w10, put_r11, put_w11, put_r12, put_w12, put_r13, put_w13, put_r14, put_w14, put_r15, put_w15, put_ra, put_r8, put_r0, put_rt, put_wa, u1, u2, hn8])
          refine e_aload_n (i := 0) 19 dX12_readUpto_18 rfl rfl rfl ?_
          refine e_geti (j := 11) 22 fl_12_123 dX12_readUpto_19 at_928 (by decide) rfl rfl (fun r19 => ?_)
          simp (disch := omega) only [put_r6, put_w6, put_r7, put_w7, put_r9, put_w9, put_r10, put_w10, put_r11, put_w11, put_r12, put_w12, put_r13, put_w13, put_r14, put_w14, put_r15, put_w15, put_ra, put_r8, put_r0, put_rt, put_wa, u1, u2, hn8] at r19 ⊢
          refine e_if_eq 25 26 dX12_readUpto_22 (by omega) (by decide) rfl (fun b22 => ?_) (fun b22 => ?_)
          · first
             | (exfalso; omega)
             | (skip
                refine e_aload_n (i := 0) 27 dX12_readUpto_26 rfl rfl rfl ?_
                refine e_callV 30 mt_yX12_next mv_yX12_next wd_1393 (by decide) dX12_readUpto_27 at_928 jc_12 rfl rfl rfl (Nat.le_of_ble_eq_true rfl) (jroom (by decide)) rfl (m_next hT (by (try simp (disch := omega) only [put_r6, put_w6, put_r7, put_w7, put_r9, put_w9, put_r10, put_w10, put_r11, put_w11, put_r12, put_w12, put_r13, put_w13, put_r14, put_w14, put_r15, put_w15, put_ra, put_r8, put_r0, put_rt, put_wa, u1, u2, hn8]); omega) ?_)
                dsimp only [jpush]
                (try simp (disch := omega) only [put_r6, put_w6, put_r7, put_w7, put_r9, put_w9, put_r10, put_w10, put_r11, put_w11, put_r12, put_w12, put_r13, put_w13, put_r14, put_w14, put_r15, put_w15, put_ra, put_r8, put_r0, put_rt, put_wa, u1, u2, hn8])
                obtain ⟨s1, e1⟩ : ∃ z, z = pU1 (M 931) n s := ⟨_, rfl⟩
                have g1 : pNext (M 931) n s = s1 := by
                  rw [e1]
                  rfl
                rw [g1]
                have k1 := (pk_next hT hI hw).1
                rw [g1] at k1
                have q1 := k1.1.rng
                have v1 := k1.1.2.2.1
                have a1 : s1.2.2.2.2.2.2 = s.2.2.2.2.2.2 := k1.2.2.2
                refine e_aload_n (i := 0) 31 dX12_readUpto_30 rfl rfl rfl ?_
                refine e_iload_n (i := 1) 32 dX12_readUpto_31 rfl rfl rfl ?_
                refine e_if_ne 35 39 dX12_readUpto_32 (by omega) (by decide) rfl (fun b32 => ?_) (fun b32 => ?_)
                · first
                   | (exfalso; omega)
                   | (skip
                      refine e_aload_n (i := 0) 40 dX12_readUpto_39 rfl rfl rfl ?_
                      refine e_getr (j := 4) 43 fl_12_24 dX12_readUpto_40 at_928 rfl rfl tp_928_4 rfl ?_
                      refine e_iconst 44 dX12_readUpto_43 rfl ?_
                      refine e_iload_n (i := 1) 45 dX12_readUpto_44 rfl rfl rfl ?_
                      refine e_iadd 46 dX12_readUpto_45 rfl ?_
                      refine e_iconst 47 dX12_readUpto_46 rfl ?_
                      refine e_isub 48 dX12_readUpto_47 rfl ?_
                      refine e_iald 49 dX12_readUpto_48 ar_932 (by omega) (by omega) rfl (fun r48 => ?_)
                      simp (disch := omega) only [put_r6, put_w6, put_r7, put_w7, put_r9, put_w9, put_r10, put_w10, put_r11, put_w11, put_r12, put_w12, put_r13, put_w13, put_r14, put_w14, put_r15, put_w15, put_ra, put_r8, put_r0, put_rt, put_wa, u1, u2, hn8] at r48 ⊢
                      have a1a : s1.2.2.2.2.2.2.2.2.2 = s.2.2.2.2.2.2.2.2.2 := congrArg (fun z => z.2.2.2) a1
                      rw [a1a] at r48 ⊢
                      refine e_iconst 50 dX12_readUpto_49 rfl ?_
                      refine e_iadd 51 dX12_readUpto_50 rfl ?_
                      refine e_sipush 54 dX12_readUpto_51 (by decide) rfl ?_
                      refine e_callV 57 mt_yX12_reads mv_yX12_reads wd_1430 (by decide) dX12_readUpto_54 at_928 jc_12 rfl rfl rfl (Nat.le_of_ble_eq_true rfl) (jroom (by decide)) rfl (m_reads hT (by (try simp (disch := omega) only [put_r6, put_w6, put_r7, put_w7, put_r9, put_w9, put_r10, put_w10, put_r11, put_w11, put_r12, put_w12, put_r13, put_w13, put_r14, put_w14, put_r15, put_w15, put_ra, put_r8, put_r0, put_rt, put_wa, u1, u2, hn8]); omega) (by (try simp (disch := omega) only [put_r6, put_w6, put_r7, put_w7, put_r9, put_w9, put_r10, put_w10, put_r11, put_w11, put_r12, put_w12, put_r13, put_w13, put_r14, put_w14, put_r15, put_w15, put_ra, put_r8, put_r0, put_rt, put_wa, u1, u2, hn8]); omega) (by (try simp (disch := omega) only [put_r6, put_w6, put_r7, put_w7, put_r9, put_w9, put_r10, put_w10, put_r11, put_w11, put_r12, put_w12, put_r13, put_w13, put_r14, put_w14, put_r15, put_w15, put_ra, put_r8, put_r0, put_rt, put_wa, u1, u2, hn8]); omega) ?_)
                      dsimp only [jpush]
                      (try simp (disch := omega) only [put_r6, put_w6, put_r7, put_w7, put_r9, put_w9, put_r10, put_w10, put_r11, put_w11, put_r12, put_w12, put_r13, put_w13, put_r14, put_w14, put_r15, put_w15, put_ra, put_r8, put_r0, put_rt, put_wa, u1, u2, hn8])
                      obtain ⟨s2, e2⟩ : ∃ z, z = pU2 (M 931) n s := ⟨_, rfl⟩
                      have g2 : pRead (M 931) n (s.2.2.2.2.2.2.2.2.2 (1 + s.2.2.2.2.2.2.2.2.2 0 - 1) + 1) 999 s1 = s2 := by
                        rw [e2]
                        rw [pU2, if_neg (by omega), ← e1]
                      rw [g2]
                      have k2 := pk_read (lo := (s.2.2.2.2.2.2.2.2.2 (1 + s.2.2.2.2.2.2.2.2.2 0 - 1) + 1)) (hi := 999) hT k1.1
                      rw [g2] at k2
                      have q2 := k2.1.rng
                      have v2 := k2.1.2.2.1
                      have a2 : s2.2.2.2.2.2.2 = s1.2.2.2.2.2.2 := k2.2.2.2
                      refine e_istore_n (i := 2) (lsn := [(2, _), (1, _), (0, _)]) 58 dX12_readUpto_57 rfl (by decide) rfl rfl ?_
                      refine e_aload_n (i := 0) 59 dX12_readUpto_58 rfl rfl rfl ?_
                      refine e_iconst 60 dX12_readUpto_59 rfl ?_
                      refine e_callV 63 mt_yX12_musts mv_yX12_musts wd_1434 (by decide) dX12_readUpto_60 at_928 jc_12 rfl rfl rfl (Nat.le_of_ble_eq_true rfl) (jroom (by decide)) rfl (m_musts hT (by (try simp (disch := omega) only [put_r6, put_w6, put_r7, put_w7, put_r9, put_w9, put_r10, put_w10, put_r11, put_w11, put_r12, put_w12, put_r13, put_w13, put_r14, put_w14, put_r15, put_w15, put_ra, put_r8, put_r0, put_rt, put_wa, u1, u2, hn8]); omega) (by (try simp (disch := omega) only [put_r6, put_w6, put_r7, put_w7, put_r9, put_w9, put_r10, put_w10, put_r11, put_w11, put_r12, put_w12, put_r13, put_w13, put_r14, put_w14, put_r15, put_w15, put_ra, put_r8, put_r0, put_rt, put_wa, u1, u2, hn8]); omega) ?_)
                      dsimp only [jpush]
                      (try simp (disch := omega) only [put_r6, put_w6, put_r7, put_w7, put_r9, put_w9, put_r10, put_w10, put_r11, put_w11, put_r12, put_w12, put_r13, put_w13, put_r14, put_w14, put_r15, put_w15, put_ra, put_r8, put_r0, put_rt, put_wa, u1, u2, hn8])
                      obtain ⟨s3, e3⟩ : ∃ z, z = pU3 (M 931) n s := ⟨_, rfl⟩
                      have g3 : pMust (M 931) n 1 s2 = s3 := by
                        rw [e3]
                        rw [pU3, ← e2]
                      rw [g3]
                      have k3 := pk_must (k := 1) hT k2.1
                      rw [g3] at k3
                      have q3 := k3.1.rng
                      have v3 := k3.1.2.2.1
                      have a3 : s3.2.2.2.2.2.2 = s2.2.2.2.2.2.2 := k3.2.2.2
                      refine e_aload_n (i := 0) 64 dX12_readUpto_63 rfl rfl rfl ?_
                      refine e_iconst 65 dX12_readUpto_64 rfl ?_
                      refine e_bipush 67 dX12_readUpto_65 (by decide) rfl ?_
                      refine e_callV 70 mt_yX12_reads mv_yX12_reads wd_1430 (by decide) dX12_readUpto_67 at_928 jc_12 rfl rfl rfl (Nat.le_of_ble_eq_true rfl) (jroom (by decide)) rfl (m_reads hT (by (try simp (disch := omega) only [put_r6, put_w6, put_r7, put_w7, put_r9, put_w9, put_r10, put_w10, put_r11, put_w11, put_r12, put_w12, put_r13, put_w13, put_r14, put_w14, put_r15, put_w15, put_ra, put_r8, put_r0, put_rt, put_wa, u1, u2, hn8]); omega) (by (try simp (disch := omega) only [put_r6, put_w6, put_r7, put_w7, put_r9, put_w9, put_r10, put_w10, put_r11, put_w11, put_r12, put_w12, put_r13, put_w13, put_r14, put_w14, put_r15, put_w15, put_ra, put_r8, put_r0, put_rt, put_wa, u1, u2, hn8]); omega) (by (try simp (disch := omega) only [put_r6, put_w6, put_r7, put_w7, put_r9, put_w9, put_r10, put_w10, put_r11, put_w11, put_r12, put_w12, put_r13, put_w13, put_r14, put_w14, put_r15, put_w15, put_ra, put_r8, put_r0, put_rt, put_wa, u1, u2, hn8]); omega) ?_)
                      dsimp only [jpush]
                      (try simp (disch := omega) only [put_r6, put_w6, put_r7, put_w7, put_r9, put_w9, put_r10, put_w10, put_r11, put_w11, put_r12, put_w12, put_r13, put_w13, put_r14, put_w14, put_r15, put_w15, put_ra, put_r8, put_r0, put_rt, put_wa, u1, u2, hn8])
                      obtain ⟨s4, e4⟩ : ∃ z, z = pU4 (M 931) n s := ⟨_, rfl⟩
                      have g4 : pRead (M 931) n 0 99 s3 = s4 := by
                        rw [e4]
                        rw [pU4, ← e3]
                      rw [g4]
                      have k4 := pk_read (lo := 0) (hi := 99) hT k3.1
                      rw [g4] at k4
                      have q4 := k4.1.rng
                      have v4 := k4.1.2.2.1
                      have a4 : s4.2.2.2.2.2.2 = s3.2.2.2.2.2.2 := k4.2.2.2
                      refine e_istore_n (i := 3) (lsn := [(3, _), (2, _), (1, _), (0, _)]) 71 dX12_readUpto_70 rfl (by decide) rfl rfl ?_
                      refine e_aload_n (i := 0) 72 dX12_readUpto_71 rfl rfl rfl ?_
                      refine e_iconst 73 dX12_readUpto_72 rfl ?_
                      refine e_callV 76 mt_yX12_musts mv_yX12_musts wd_1434 (by decide) dX12_readUpto_73 at_928 jc_12 rfl rfl rfl (Nat.le_of_ble_eq_true rfl) (jroom (by decide)) rfl (m_musts hT (by (try simp (disch := omega) only [put_r6, put_w6, put_r7, put_w7, put_r9, put_w9, put_r10, put_w10, put_r11, put_w11, put_r12, put_w12, put_r13, put_w13, put_r14, put_w14, put_r15, put_w15, put_ra, put_r8, put_r0, put_rt, put_wa, u1, u2, hn8]); omega) (by (try simp (disch := omega) only [put_r6, put_w6, put_r7, put_w7, put_r9, put_w9, put_r10, put_w10, put_r11, put_w11, put_r12, put_w12, put_r13, put_w13, put_r14, put_w14, put_r15, put_w15, put_ra, put_r8, put_r0, put_rt, put_wa, u1, u2, hn8]); omega) ?_)
                      dsimp only [jpush]
                      (try simp (disch := omega) only [put_r6, put_w6, put_r7, put_w7, put_r9, put_w9, put_r10, put_w10, put_r11, put_w11, put_r12, put_w12, put_r13, put_w13, put_r14, put_w14, put_r15, put_w15, put_ra, put_r8, put_r0, put_rt, put_wa, u1, u2, hn8])
                      obtain ⟨s5, e5⟩ : ∃ z, z = pU5 (M 931) n s := ⟨_, rfl⟩
                      have g5 : pMust (M 931) n 2 s4 = s5 := by
                        rw [e5]
                        rw [pU5, ← e4]
                      rw [g5]
                      have k5 := pk_must (k := 2) hT k4.1
                      rw [g5] at k5
                      have q5 := k5.1.rng
                      have v5 := k5.1.2.2.1
                      have a5 : s5.2.2.2.2.2.2 = s4.2.2.2.2.2.2 := k5.2.2.2
                      refine e_aload_n (i := 0) 77 dX12_readUpto_76 rfl rfl rfl ?_
                      refine e_iconst 78 dX12_readUpto_77 rfl ?_
                      refine e_sipush 81 dX12_readUpto_78 (by decide) rfl ?_
                      refine e_callV 84 mt_yX12_reads mv_yX12_reads wd_1430 (by decide) dX12_readUpto_81 at_928 jc_12 rfl rfl rfl (Nat.le_of_ble_eq_true rfl) (jroom (by decide)) rfl (m_reads hT (by (try simp (disch := omega) only [put_r6, put_w6, put_r7, put_w7, put_r9, put_w9, put_r10, put_w10, put_r11, put_w11, put_r12, put_w12, put_r13, put_w13, put_r14, put_w14, put_r15, put_w15, put_ra, put_r8, put_r0, put_rt, put_wa, u1, u2, hn8]); omega) (by (try simp (disch := omega) only [put_r6, put_w6, put_r7, put_w7, put_r9, put_w9, put_r10, put_w10, put_r11, put_w11, put_r12, put_w12, put_r13, put_w13, put_r14, put_w14, put_r15, put_w15, put_ra, put_r8, put_r0, put_rt, put_wa, u1, u2, hn8]); omega) (by (try simp (disch := omega) only [put_r6, put_w6, put_r7, put_w7, put_r9, put_w9, put_r10, put_w10, put_r11, put_w11, put_r12, put_w12, put_r13, put_w13, put_r14, put_w14, put_r15, put_w15, put_ra, put_r8, put_r0, put_rt, put_wa, u1, u2, hn8]); omega) ?_)
                      dsimp only [jpush]
                      (try simp (disch := omega) only [put_r6, put_w6, put_r7, put_w7, put_r9, put_w9, put_r10, put_w10, put_r11, put_w11, put_r12, put_w12, put_r13, put_w13, put_r14, put_w14, put_r15, put_w15, put_ra, put_r8, put_r0, put_rt, put_wa, u1, u2, hn8])
                      obtain ⟨s6, e6⟩ : ∃ z, z = pU6 (M 931) n s := ⟨_, rfl⟩
                      have g6 : pRead (M 931) n 1 999 s5 = s6 := by
                        rw [e6]
                        rw [pU6, ← e5]
                      rw [g6]
                      have k6 := pk_read (lo := 1) (hi := 999) hT k5.1
                      rw [g6] at k6
                      have q6 := k6.1.rng
                      have v6 := k6.1.2.2.1
                      have a6 : s6.2.2.2.2.2.2 = s5.2.2.2.2.2.2 := k6.2.2.2
                      have n6 := k6.1.2.2.2.2.2.2.1
                      have w6 := k6.1.2.2.2.1
                      refine e_istore (lsn := [(4, _), (3, _), (2, _), (1, _), (0, _)]) 86 dX12_readUpto_84 (by decide) rfl rfl ?_
                      refine e_aload_n (i := 0) 87 dX12_readUpto_86 rfl rfl rfl ?_
                      refine e_geti (j := 11) 90 fl_12_123 dX12_readUpto_87 at_928 (by decide) rfl rfl (fun r87 => ?_)
                      simp (disch := omega) only [put_r6, put_w6, put_r7, put_w7, put_r9, put_w9, put_r10, put_w10, put_r11, put_w11, put_r12, put_w12, put_r13, put_w13, put_r14, put_w14, put_r15, put_w15, put_ra, put_r8, put_r0, put_rt, put_wa, u1, u2, hn8] at r87 ⊢
                      refine e_if_eq 93 94 dX12_readUpto_90 (by omega) (by decide) rfl (fun b90 => ?_) (fun b90 => ?_)
                      · first
                         | (exfalso; omega)
                         | (skip
                            refine e_aload_n (i := 0) 95 dX12_readUpto_94 rfl rfl rfl ?_
                            refine e_getr (j := 4) 98 fl_12_24 dX12_readUpto_95 at_928 rfl rfl tp_928_4 rfl ?_
                            refine e_iconst 99 dX12_readUpto_98 rfl ?_
                            refine e_iload_n (i := 1) 100 dX12_readUpto_99 rfl rfl rfl ?_
                            refine e_iadd 101 dX12_readUpto_100 rfl ?_
                            refine e_iload_n (i := 2) 102 dX12_readUpto_101 rfl rfl rfl ?_
                            refine e_iast 103 dX12_readUpto_102 ar_932 (by omega) (by omega) (by omega) rfl ?_
                            refine e_aload_n (i := 0) 104 dX12_readUpto_103 rfl rfl rfl ?_
                            refine e_getr (j := 4) 107 fl_12_24 dX12_readUpto_104 at_928 rfl rfl tp_928_4 rfl ?_
                            refine e_bipush 109 dX12_readUpto_107 (by decide) rfl ?_
                            refine e_iload_n (i := 1) 110 dX12_readUpto_109 rfl rfl rfl ?_
                            refine e_iadd 111 dX12_readUpto_110 rfl ?_
                            refine e_iload_n (i := 3) 112 dX12_readUpto_111 rfl rfl rfl ?_
                            refine e_iast 113 dX12_readUpto_112 ar_932 (by omega) (by omega) (by omega) rfl ?_
                            refine e_aload_n (i := 0) 114 dX12_readUpto_113 rfl rfl rfl ?_
                            refine e_getr (j := 4) 117 fl_12_24 dX12_readUpto_114 at_928 rfl rfl tp_928_4 rfl ?_
                            refine e_bipush 119 dX12_readUpto_117 (by decide) rfl ?_
                            refine e_iload_n (i := 1) 120 dX12_readUpto_119 rfl rfl rfl ?_
                            refine e_iadd 121 dX12_readUpto_120 rfl ?_
                            refine e_iload 123 dX12_readUpto_121 rfl rfl ?_
                            refine e_iast 124 dX12_readUpto_123 ar_932 (by omega) (by omega) (by omega) rfl ?_
                            refine e_aload_n (i := 0) 125 dX12_readUpto_124 rfl rfl rfl ?_
                            refine e_getr (j := 4) 128 fl_12_24 dX12_readUpto_125 at_928 rfl rfl tp_928_4 rfl ?_
                            refine e_iconst 129 dX12_readUpto_128 rfl ?_
                            refine e_dup2 130 dX12_readUpto_129 rfl rfl rfl ?_
                            refine e_iald 131 dX12_readUpto_130 ar_932 (by decide) (by decide) rfl (fun r130 => ?_)
                            simp (disch := omega) only [put_r6, put_w6, put_r7, put_w7, put_r9, put_w9, put_r10, put_w10, put_r11, put_w11, put_r12, put_w12, put_r13, put_w13, put_r14, put_w14, put_r15, put_w15, put_ra, put_r8, put_r0, put_rt, put_wa, u1, u2, hn8] at r130 ⊢
                            refine e_iconst 132 dX12_readUpto_131 rfl ?_
                            refine e_iadd 133 dX12_readUpto_132 rfl ?_
                            refine e_iast 134 dX12_readUpto_133 ar_932 (by decide) (by decide) (by omega) rfl ?_
                            refine e_vret dX12_readUpto_134 ?_
                            rw [pUpto, if_neg (by omega), ← e6, if_neg (by omega), pU7, ← e6, ← e1, ← e3, ← e5] at h
                            simp (disch := omega) only [put_r6, put_w6, put_r7, put_w7, put_r9, put_w9, put_r10, put_w10, put_r11, put_w11, put_r12, put_w12, put_r13, put_w13, put_r14, put_w14, put_r15, put_w15, put_ra, put_r8, put_r0, put_rt, put_wa, u1, u2, hn8]
                            exact h)
                      · first
                         | (exfalso; omega)
                         | (skip
                            refine e_vret dX12_readUpto_93 ?_
                            rw [pUpto, if_neg (by omega), ← e6, if_pos (by omega)] at h
                            exact h))
                · omega)
          · first
             | (exfalso; omega)
             | (skip
                refine e_vret dX12_readUpto_25 ?_
                rw [pUpto, if_pos (by omega)] at h
                exact h))

