/-! TEXTS *** the reference: its tokens -/
def RT (M : jM) (n : Int) : Prop := M 928 8 = n ∧ (0 ≤ n ∧ n ≤ 400) ∧ ∀ i : Int, 0 ≤ i → i < n → 0 ≤ M 931 i ∧ M 931 i ≤ 255
theorem m_see {M : jM} {n : Int} {Q : Int → jM → Prop} (hT : RT M n) {s : PS} {k : Int} (hk : 0 ≤ k ∧ k ≤ 100000) (h1 : k < n → Q (M 931 k) (put M s)) (h0 : n ≤ k → Q (-1) (put M s)) : jCt yX12_see cX12_see 2 (some .int) 1 [jR 928, jI k] (put M s) Q := by
  refine jCt_of mt_yX12_see (Nat.le_of_ble_eq_true rfl) (fun X => ?_)
  have hn8 := hT.1
  have hn := hT.2.1
  refine e_iload_n (i := 1) 1 dX12_see_0 rfl rfl rfl ?_
  refine e_aload_n (i := 0) 2 dX12_see_1 rfl rfl rfl ?_
  refine e_geti (j := 8) 5 fl_12_82 dX12_see_2 at_928 (by decide) rfl rfl (fun r2 => ?_)
  simp (disch := omega) only [put_r6, put_w6, put_r7, put_w7, put_r9, put_w9, put_r10, put_w10, put_r11, put_w11, put_r12, put_w12, put_r13, put_w13, put_r14, put_w14, put_r15, put_w15, put_ra, put_r8, put_r0, put_rt, put_wa, u1, u2, hn8] at r2 ⊢
  refine e_icmp_ge 8 17 dX12_see_5 (by omega) (by omega) (by decide) rfl (fun b5 => ?_) (fun b5 => ?_)
  · skip
    refine e_iconst 18 dX12_see_17 rfl ?_
    refine e_iret dX12_see_18 ?_
    first | exact h1 (by omega) | exact h0 (by omega)
  · skip
    refine e_aload_n (i := 0) 9 dX12_see_8 rfl rfl rfl ?_
    refine e_getr (j := 3) 12 fl_12_21 dX12_see_9 at_928 rfl rfl tp_928_3 rfl ?_
    refine e_iload_n (i := 1) 13 dX12_see_12 rfl rfl rfl ?_
    refine e_iald 14 dX12_see_13 ar_931 (by omega) (by omega) rfl (fun r13 => ?_)
    simp (disch := omega) only [put_r6, put_w6, put_r7, put_w7, put_r9, put_w9, put_r10, put_w10, put_r11, put_w11, put_r12, put_w12, put_r13, put_w13, put_r14, put_w14, put_r15, put_w15, put_ra, put_r8, put_r0, put_rt, put_wa, u1, u2, hn8] at r13 ⊢
    refine e_goto 18 dX12_see_14 (by decide) ?_
    refine e_iret dX12_see_18 ?_
    first | exact h1 (by omega) | exact h0 (by omega)

theorem m_isSmall {c : Int} {M : jM} {Q : Int → jM → Prop} (hc : -1000 ≤ c ∧ c ≤ 1000) (h1 : 97 ≤ c ∧ c ≤ 122 → Q 1 M) (h0 : ¬ (97 ≤ c ∧ c ≤ 122) → Q 0 M) : jCt yX12_isSmall cX12_isSmall 1 (some .boolean) 1 [jI c] M Q := by
  refine jCt_of mt_yX12_isSmall (Nat.le_of_ble_eq_true rfl) (fun X => ?_)
  refine e_iload_n (i := 0) 1 dX12_isSmall_0 rfl rfl rfl ?_
  refine e_bipush 3 dX12_isSmall_1 (by decide) rfl ?_
  refine e_icmp_lt 6 16 dX12_isSmall_3 (by omega) (by decide) (by decide) rfl (fun b3 => ?_) (fun b3 => ?_)
  · skip
    refine e_iconst 17 dX12_isSmall_16 rfl ?_
    refine e_zret dX12_isSmall_17 (by decide) ?_
    first | exact h1 (by omega) | exact h0 (by omega)
  · skip
    refine e_iload_n (i := 0) 7 dX12_isSmall_6 rfl rfl rfl ?_
    refine e_bipush 9 dX12_isSmall_7 (by decide) rfl ?_
    refine e_icmp_gt 12 16 dX12_isSmall_9 (by omega) (by decide) (by decide) rfl (fun b9 => ?_) (fun b9 => ?_)
    · skip
      refine e_iconst 17 dX12_isSmall_16 rfl ?_
      refine e_zret dX12_isSmall_17 (by decide) ?_
      first | exact h1 (by omega) | exact h0 (by omega)
    · skip
      refine e_iconst 13 dX12_isSmall_12 rfl ?_
      refine e_goto 17 dX12_isSmall_13 (by decide) ?_
      refine e_zret dX12_isSmall_17 (by decide) ?_
      first | exact h1 (by omega) | exact h0 (by omega)

theorem m_isDigit {c : Int} {M : jM} {Q : Int → jM → Prop} (hc : -1000 ≤ c ∧ c ≤ 1000) (h1 : 48 ≤ c ∧ c ≤ 57 → Q 1 M) (h0 : ¬ (48 ≤ c ∧ c ≤ 57) → Q 0 M) : jCt yX12_isDigit cX12_isDigit 1 (some .boolean) 1 [jI c] M Q := by
  refine jCt_of mt_yX12_isDigit (Nat.le_of_ble_eq_true rfl) (fun X => ?_)
  refine e_iload_n (i := 0) 1 dX12_isDigit_0 rfl rfl rfl ?_
  refine e_bipush 3 dX12_isDigit_1 (by decide) rfl ?_
  refine e_icmp_lt 6 16 dX12_isDigit_3 (by omega) (by decide) (by decide) rfl (fun b3 => ?_) (fun b3 => ?_)
  · skip
    refine e_iconst 17 dX12_isDigit_16 rfl ?_
    refine e_zret dX12_isDigit_17 (by decide) ?_
    first | exact h1 (by omega) | exact h0 (by omega)
  · skip
    refine e_iload_n (i := 0) 7 dX12_isDigit_6 rfl rfl rfl ?_
    refine e_bipush 9 dX12_isDigit_7 (by decide) rfl ?_
    refine e_icmp_gt 12 16 dX12_isDigit_9 (by omega) (by decide) (by decide) rfl (fun b9 => ?_) (fun b9 => ?_)
    · skip
      refine e_iconst 17 dX12_isDigit_16 rfl ?_
      refine e_zret dX12_isDigit_17 (by decide) ?_
      first | exact h1 (by omega) | exact h0 (by omega)
    · skip
      refine e_iconst 13 dX12_isDigit_12 rfl ?_
      refine e_goto 17 dX12_isDigit_13 (by decide) ?_
      refine e_zret dX12_isDigit_17 (by decide) ?_
      first | exact h1 (by omega) | exact h0 (by omega)

theorem kk_20 {X : jX} {M : jM} {n : Int} {Q : Int → jM → Prop} (hT : RT M n) {s : PS} (hp : 0 ≤ s.1) (hb : s.1 ≤ s.2.1 ∧ s.2.1 ≤ n) (h : Q (kx20 (M 931) s.1 s.2.1) (put M s)) : jE X yX12_keyAt cX12_keyAt 4 (some .int) 5 Q (put M s) 4 [(0, jR 928), (1, jI 20), (2, jI 99)] [] := by
  refine e_iload_n (i := 2) 5 dX12_keyAt_4 rfl rfl rfl ?_
  refine e_ldcS 7 (i := 20) (by decide) rfl rfl dX12_keyAt_5 rfl ?_
  refine e_callF (av := []) 10 (i := 20) (by decide) mt_yJ_len mv_yJ_len wd_1409 (by decide) dX12_keyAt_7 rfl rfl rfl (Nat.le_of_ble_eq_true rfl) (jroom (by decide)) rfl (c_strlen (i := 20) (z := 99) (by decide) (by decide) ?_)
  dsimp only [jpush]
  (try simp (disch := omega) only [put_r6, put_w6, put_r7, put_w7, put_r9, put_w9, put_r10, put_w10, put_r11, put_w11, put_r12, put_w12, put_r13, put_w13, put_r14, put_w14, put_r15, put_w15, put_ra, put_r8, put_r0, put_rt, put_wa, u1, u2, hn8])
  refine e_icmp_ge 13 123 dX12_keyAt_10 (by decide) (by decide) (by decide) rfl (fun _ => ?_) (fun h => absurd h (by decide))
  refine e_bipush 125 dX12_keyAt_123 (by decide) rfl ?_
  refine e_iret dX12_keyAt_125 ?_
  exact h

theorem sk_19 {X : jX} {Y : jM} {Q : Int → jM → Prop} (h : jE X yX12_keyAt cX12_keyAt 4 (some .int) 5 Q Y 4 [(0, jR 928), (1, jI 20), (2, jI 99)] []) : jE X yX12_keyAt cX12_keyAt 4 (some .int) 5 Q Y 97 [(0, jR 928), (1, jI 19), (2, jI 96)] [] := by
  refine e_ldcS 99 (i := 20) (by decide) rfl rfl dX12_keyAt_97 rfl ?_
  refine e_iload_n (i := 2) 100 dX12_keyAt_99 rfl rfl rfl ?_
  refine e_callF (av := [jI _]) 103 (i := 20) (by decide) mt_yJ_charAt mv_yJ_charAt wd_1410 (by decide) dX12_keyAt_100 rfl rfl rfl (Nat.le_of_ble_eq_true rfl) (jroom (by decide)) rfl (c_charAt (i := 20) (k := 96) (z := 98) (by decide) (by decide) (by decide +kernel) ?_)
  dsimp only [jpush]
  refine e_bipush 105 dX12_keyAt_103 (by decide) rfl ?_
  refine e_icmp_eq 108 114 dX12_keyAt_105 (by decide) (by decide) (by decide) rfl (fun h => absurd h (by decide)) (fun _ => ?_)
  refine e_iinc (lsn := [(2, _), (0, _), (1, _)]) 111 dX12_keyAt_108 rfl (by decide) rfl rfl ?_
  refine e_goto 97 dX12_keyAt_111 (by decide) ?_
  refine e_ldcS 99 (i := 20) (by decide) rfl rfl dX12_keyAt_97 rfl ?_
  refine e_iload_n (i := 2) 100 dX12_keyAt_99 rfl rfl rfl ?_
  refine e_callF (av := [jI _]) 103 (i := 20) (by decide) mt_yJ_charAt mv_yJ_charAt wd_1410 (by decide) dX12_keyAt_100 rfl rfl rfl (Nat.le_of_ble_eq_true rfl) (jroom (by decide)) rfl (c_charAt (i := 20) (k := 97) (z := 121) (by decide) (by decide) (by decide +kernel) ?_)
  dsimp only [jpush]
  refine e_bipush 105 dX12_keyAt_103 (by decide) rfl ?_
  refine e_icmp_eq 108 114 dX12_keyAt_105 (by decide) (by decide) (by decide) rfl (fun h => absurd h (by decide)) (fun _ => ?_)
  refine e_iinc (lsn := [(2, _), (0, _), (1, _)]) 111 dX12_keyAt_108 rfl (by decide) rfl rfl ?_
  refine e_goto 97 dX12_keyAt_111 (by decide) ?_
  refine e_ldcS 99 (i := 20) (by decide) rfl rfl dX12_keyAt_97 rfl ?_
  refine e_iload_n (i := 2) 100 dX12_keyAt_99 rfl rfl rfl ?_
  refine e_callF (av := [jI _]) 103 (i := 20) (by decide) mt_yJ_charAt mv_yJ_charAt wd_1410 (by decide) dX12_keyAt_100 rfl rfl rfl (Nat.le_of_ble_eq_true rfl) (jroom (by decide)) rfl (c_charAt (i := 20) (k := 98) (z := 32) (by decide) (by decide) (by decide +kernel) ?_)
  dsimp only [jpush]
  refine e_bipush 105 dX12_keyAt_103 (by decide) rfl ?_
  refine e_icmp_eq 108 114 dX12_keyAt_105 (by decide) (by decide) (by decide) rfl (fun _ => ?_) (fun h => absurd h (by decide))
  refine e_iinc (lsn := [(2, _), (0, _), (1, _)]) 117 dX12_keyAt_114 rfl (by decide) rfl rfl ?_
  refine e_iinc (lsn := [(1, _), (2, _), (0, _)]) 120 dX12_keyAt_117 rfl (by decide) rfl rfl ?_
  refine e_goto 4 dX12_keyAt_120 (by decide) ?_
  refine e_ls (ls2 := [(0, _), (1, _), (2, _)]) rfl ?_
  exact h

theorem kk_19 {X : jX} {M : jM} {n : Int} {Q : Int → jM → Prop} (hT : RT M n) {s : PS} (hp : 0 ≤ s.1) (hb : s.1 ≤ s.2.1 ∧ s.2.1 ≤ n) (h : Q (kx19 (M 931) s.1 s.2.1) (put M s)) : jE X yX12_keyAt cX12_keyAt 4 (some .int) 5 Q (put M s) 4 [(0, jR 928), (1, jI 19), (2, jI 96)] [] := by
  have hn8 := hT.1
  have hn := hT.2.1
  refine e_iload_n (i := 2) 5 dX12_keyAt_4 rfl rfl rfl ?_
  refine e_ldcS 7 (i := 20) (by decide) rfl rfl dX12_keyAt_5 rfl ?_
  refine e_callF (av := []) 10 (i := 20) (by decide) mt_yJ_len mv_yJ_len wd_1409 (by decide) dX12_keyAt_7 rfl rfl rfl (Nat.le_of_ble_eq_true rfl) (jroom (by decide)) rfl (c_strlen (i := 20) (z := 99) (by decide) (by decide) ?_)
  dsimp only [jpush]
  (try simp (disch := omega) only [put_r6, put_w6, put_r7, put_w7, put_r9, put_w9, put_r10, put_w10, put_r11, put_w11, put_r12, put_w12, put_r13, put_w13, put_r14, put_w14, put_r15, put_w15, put_ra, put_r8, put_r0, put_rt, put_wa, u1, u2, hn8])
  refine e_icmp_ge 13 123 dX12_keyAt_10 (by decide) (by decide) (by decide) rfl (fun h => absurd h (by decide)) (fun _ => ?_)
  refine e_iconst 14 dX12_keyAt_13 rfl ?_
  refine e_istore_n (i := 3) (lsn := [(3, _), (0, _), (1, _), (2, _)]) 15 dX12_keyAt_14 rfl (by decide) rfl rfl ?_
  refine e_ldcS 17 (i := 20) (by decide) rfl rfl dX12_keyAt_15 rfl ?_
  refine e_iload_n (i := 2) 18 dX12_keyAt_17 rfl rfl rfl ?_
  refine e_iload_n (i := 3) 19 dX12_keyAt_18 rfl rfl rfl ?_
  refine e_iadd 20 dX12_keyAt_19 rfl ?_
  refine e_callF (av := [jI _]) 23 (i := 20) (by decide) mt_yJ_charAt mv_yJ_charAt wd_1410 (by decide) dX12_keyAt_20 rfl rfl rfl (Nat.le_of_ble_eq_true rfl) (jroom (by decide)) rfl (c_charAt (i := 20) (k := 96) (z := 98) (by decide) (by decide) (by decide +kernel) ?_)
  dsimp only [jpush]
  (try simp (disch := omega) only [put_r6, put_w6, put_r7, put_w7, put_r9, put_w9, put_r10, put_w10, put_r11, put_w11, put_r12, put_w12, put_r13, put_w13, put_r14, put_w14, put_r15, put_w15, put_ra, put_r8, put_r0, put_rt, put_wa, u1, u2, hn8])
  refine e_bipush 25 dX12_keyAt_23 (by decide) rfl ?_
  refine e_icmp_eq 28 69 dX12_keyAt_25 (by decide) (by decide) (by decide) rfl (fun h => absurd h (by decide)) (fun _ => ?_)
  refine e_aload_n (i := 0) 29 dX12_keyAt_28 rfl rfl rfl ?_
  refine e_geti (j := 6) 32 fl_12_97 dX12_keyAt_29 at_928 (by decide) rfl rfl (fun r29 => ?_)
  simp (disch := omega) only [put_r6, put_w6, put_r7, put_w7, put_r9, put_w9, put_r10, put_w10, put_r11, put_w11, put_r12, put_w12, put_r13, put_w13, put_r14, put_w14, put_r15, put_w15, put_ra, put_r8, put_r0, put_rt, put_wa, u1, u2, hn8] at r29 ⊢
  refine e_iload_n (i := 3) 33 dX12_keyAt_32 rfl rfl rfl ?_
  refine e_iadd 34 dX12_keyAt_33 rfl ?_
  refine e_aload_n (i := 0) 35 dX12_keyAt_34 rfl rfl rfl ?_
  refine e_geti (j := 7) 38 fl_12_100 dX12_keyAt_35 at_928 (by decide) rfl rfl (fun r35 => ?_)
  simp (disch := omega) only [put_r6, put_w6, put_r7, put_w7, put_r9, put_w9, put_r10, put_w10, put_r11, put_w11, put_r12, put_w12, put_r13, put_w13, put_r14, put_w14, put_r15, put_w15, put_ra, put_r8, put_r0, put_rt, put_wa, u1, u2, hn8] at r35 ⊢
  refine e_icmp_ge 41 69 dX12_keyAt_38 (by omega) (by omega) (by decide) rfl (fun b38 => ?_) (fun b38 => ?_)
  · skip
    refine e_ldcS 71 (i := 20) (by decide) rfl rfl dX12_keyAt_69 rfl ?_
    refine e_iload_n (i := 2) 72 dX12_keyAt_71 rfl rfl rfl ?_
    refine e_iload_n (i := 3) 73 dX12_keyAt_72 rfl rfl rfl ?_
    refine e_iadd 74 dX12_keyAt_73 rfl ?_
    refine e_callF (av := [jI _]) 77 (i := 20) (by decide) mt_yJ_charAt mv_yJ_charAt wd_1410 (by decide) dX12_keyAt_74 rfl rfl rfl (Nat.le_of_ble_eq_true rfl) (jroom (by decide)) rfl (c_charAt (i := 20) (k := 96) (z := 98) (by decide) (by decide) (by decide +kernel) ?_)
    dsimp only [jpush]
    (try simp (disch := omega) only [put_r6, put_w6, put_r7, put_w7, put_r9, put_w9, put_r10, put_w10, put_r11, put_w11, put_r12, put_w12, put_r13, put_w13, put_r14, put_w14, put_r15, put_w15, put_ra, put_r8, put_r0, put_rt, put_wa, u1, u2, hn8])
    refine e_bipush 79 dX12_keyAt_77 (by decide) rfl ?_
    refine e_icmp_ne 82 97 dX12_keyAt_79 (by decide) (by decide) (by decide) rfl (fun _ => ?_) (fun h => absurd h (by decide))
    refine e_ls (ls2 := [(0, _), (1, _), (2, _)]) rfl ?_
    refine sk_19 (kk_20 hT hp hb ?_)
    rw [kx19, if_neg (fun q => by omega)] at h
    exact h
  · skip
    refine e_aload_n (i := 0) 42 dX12_keyAt_41 rfl rfl rfl ?_
    refine e_getr (j := 3) 45 fl_12_21 dX12_keyAt_42 at_928 rfl rfl tp_928_3 rfl ?_
    refine e_aload_n (i := 0) 46 dX12_keyAt_45 rfl rfl rfl ?_
    refine e_geti (j := 6) 49 fl_12_97 dX12_keyAt_46 at_928 (by decide) rfl rfl (fun r46 => ?_)
    simp (disch := omega) only [put_r6, put_w6, put_r7, put_w7, put_r9, put_w9, put_r10, put_w10, put_r11, put_w11, put_r12, put_w12, put_r13, put_w13, put_r14, put_w14, put_r15, put_w15, put_ra, put_r8, put_r0, put_rt, put_wa, u1, u2, hn8] at r46 ⊢
    refine e_iload_n (i := 3) 50 dX12_keyAt_49 rfl rfl rfl ?_
    refine e_iadd 51 dX12_keyAt_50 rfl ?_
    refine e_iald 52 dX12_keyAt_51 ar_931 (by omega) (by omega) rfl (fun r51 => ?_)
    simp (disch := omega) only [put_r6, put_w6, put_r7, put_w7, put_r9, put_w9, put_r10, put_w10, put_r11, put_w11, put_r12, put_w12, put_r13, put_w13, put_r14, put_w14, put_r15, put_w15, put_ra, put_r8, put_r0, put_rt, put_wa, u1, u2, hn8, Int.reduceAdd, Int.add_zero] at r51 ⊢
    refine e_ldcS 54 (i := 20) (by decide) rfl rfl dX12_keyAt_52 rfl ?_
    refine e_iload_n (i := 2) 55 dX12_keyAt_54 rfl rfl rfl ?_
    refine e_iload_n (i := 3) 56 dX12_keyAt_55 rfl rfl rfl ?_
    refine e_iadd 57 dX12_keyAt_56 rfl ?_
    refine e_callF (av := [jI _]) 60 (i := 20) (by decide) mt_yJ_charAt mv_yJ_charAt wd_1410 (by decide) dX12_keyAt_57 rfl rfl rfl (Nat.le_of_ble_eq_true rfl) (jroom (by decide)) rfl (c_charAt (i := 20) (k := 96) (z := 98) (by decide) (by decide) (by decide +kernel) ?_)
    dsimp only [jpush]
    (try simp (disch := omega) only [put_r6, put_w6, put_r7, put_w7, put_r9, put_w9, put_r10, put_w10, put_r11, put_w11, put_r12, put_w12, put_r13, put_w13, put_r14, put_w14, put_r15, put_w15, put_ra, put_r8, put_r0, put_rt, put_wa, u1, u2, hn8])
    refine e_icmp_ne 63 69 dX12_keyAt_60 (by omega) (by decide) (by decide) rfl (fun b60 => ?_) (fun b60 => ?_)
    · skip
      refine e_ldcS 71 (i := 20) (by decide) rfl rfl dX12_keyAt_69 rfl ?_
      refine e_iload_n (i := 2) 72 dX12_keyAt_71 rfl rfl rfl ?_
      refine e_iload_n (i := 3) 73 dX12_keyAt_72 rfl rfl rfl ?_
      refine e_iadd 74 dX12_keyAt_73 rfl ?_
      refine e_callF (av := [jI _]) 77 (i := 20) (by decide) mt_yJ_charAt mv_yJ_charAt wd_1410 (by decide) dX12_keyAt_74 rfl rfl rfl (Nat.le_of_ble_eq_true rfl) (jroom (by decide)) rfl (c_charAt (i := 20) (k := 96) (z := 98) (by decide) (by decide) (by decide +kernel) ?_)
      dsimp only [jpush]
      (try simp (disch := omega) only [put_r6, put_w6, put_r7, put_w7, put_r9, put_w9, put_r10, put_w10, put_r11, put_w11, put_r12, put_w12, put_r13, put_w13, put_r14, put_w14, put_r15, put_w15, put_ra, put_r8, put_r0, put_rt, put_wa, u1, u2, hn8])
      refine e_bipush 79 dX12_keyAt_77 (by decide) rfl ?_
      refine e_icmp_ne 82 97 dX12_keyAt_79 (by decide) (by decide) (by decide) rfl (fun _ => ?_) (fun h => absurd h (by decide))
      refine e_ls (ls2 := [(0, _), (1, _), (2, _)]) rfl ?_
      refine sk_19 (kk_20 hT hp hb ?_)
      rw [kx19, if_neg (fun q => by omega)] at h
      exact h
    · skip
      refine e_iinc (lsn := [(3, _), (0, _), (1, _), (2, _)]) 66 dX12_keyAt_63 rfl (by decide) rfl rfl ?_
      refine e_goto 15 dX12_keyAt_66 (by decide) ?_
      refine e_ldcS 17 (i := 20) (by decide) rfl rfl dX12_keyAt_15 rfl ?_
      refine e_iload_n (i := 2) 18 dX12_keyAt_17 rfl rfl rfl ?_
      refine e_iload_n (i := 3) 19 dX12_keyAt_18 rfl rfl rfl ?_
      refine e_iadd 20 dX12_keyAt_19 rfl ?_
      refine e_callF (av := [jI _]) 23 (i := 20) (by decide) mt_yJ_charAt mv_yJ_charAt wd_1410 (by decide) dX12_keyAt_20 rfl rfl rfl (Nat.le_of_ble_eq_true rfl) (jroom (by decide)) rfl (c_charAt (i := 20) (k := 97) (z := 121) (by decide) (by decide) (by decide +kernel) ?_)
      dsimp only [jpush]
      (try simp (disch := omega) only [put_r6, put_w6, put_r7, put_w7, put_r9, put_w9, put_r10, put_w10, put_r11, put_w11, put_r12, put_w12, put_r13, put_w13, put_r14, put_w14, put_r15, put_w15, put_ra, put_r8, put_r0, put_rt, put_wa, u1, u2, hn8])
      refine e_bipush 25 dX12_keyAt_23 (by decide) rfl ?_
      refine e_icmp_eq 28 69 dX12_keyAt_25 (by decide) (by decide) (by decide) rfl (fun h => absurd h (by decide)) (fun _ => ?_)
      refine e_aload_n (i := 0) 29 dX12_keyAt_28 rfl rfl rfl ?_
      refine e_geti (j := 6) 32 fl_12_97 dX12_keyAt_29 at_928 (by decide) rfl rfl (fun r29 => ?_)
      simp (disch := omega) only [put_r6, put_w6, put_r7, put_w7, put_r9, put_w9, put_r10, put_w10, put_r11, put_w11, put_r12, put_w12, put_r13, put_w13, put_r14, put_w14, put_r15, put_w15, put_ra, put_r8, put_r0, put_rt, put_wa, u1, u2, hn8] at r29 ⊢
      refine e_iload_n (i := 3) 33 dX12_keyAt_32 rfl rfl rfl ?_
      refine e_iadd 34 dX12_keyAt_33 rfl ?_
      refine e_aload_n (i := 0) 35 dX12_keyAt_34 rfl rfl rfl ?_
      refine e_geti (j := 7) 38 fl_12_100 dX12_keyAt_35 at_928 (by decide) rfl rfl (fun r35 => ?_)
      simp (disch := omega) only [put_r6, put_w6, put_r7, put_w7, put_r9, put_w9, put_r10, put_w10, put_r11, put_w11, put_r12, put_w12, put_r13, put_w13, put_r14, put_w14, put_r15, put_w15, put_ra, put_r8, put_r0, put_rt, put_wa, u1, u2, hn8] at r35 ⊢
      refine e_icmp_ge 41 69 dX12_keyAt_38 (by omega) (by omega) (by decide) rfl (fun b38 => ?_) (fun b38 => ?_)
      · skip
        refine e_ldcS 71 (i := 20) (by decide) rfl rfl dX12_keyAt_69 rfl ?_
        refine e_iload_n (i := 2) 72 dX12_keyAt_71 rfl rfl rfl ?_
        refine e_iload_n (i := 3) 73 dX12_keyAt_72 rfl rfl rfl ?_
        refine e_iadd 74 dX12_keyAt_73 rfl ?_
        refine e_callF (av := [jI _]) 77 (i := 20) (by decide) mt_yJ_charAt mv_yJ_charAt wd_1410 (by decide) dX12_keyAt_74 rfl rfl rfl (Nat.le_of_ble_eq_true rfl) (jroom (by decide)) rfl (c_charAt (i := 20) (k := 97) (z := 121) (by decide) (by decide) (by decide +kernel) ?_)
        dsimp only [jpush]
        (try simp (disch := omega) only [put_r6, put_w6, put_r7, put_w7, put_r9, put_w9, put_r10, put_w10, put_r11, put_w11, put_r12, put_w12, put_r13, put_w13, put_r14, put_w14, put_r15, put_w15, put_ra, put_r8, put_r0, put_rt, put_wa, u1, u2, hn8])
        refine e_bipush 79 dX12_keyAt_77 (by decide) rfl ?_
        refine e_icmp_ne 82 97 dX12_keyAt_79 (by decide) (by decide) (by decide) rfl (fun _ => ?_) (fun h => absurd h (by decide))
        refine e_ls (ls2 := [(0, _), (1, _), (2, _)]) rfl ?_
        refine sk_19 (kk_20 hT hp hb ?_)
        rw [kx19, if_neg (fun q => by omega)] at h
        exact h
      · skip
        refine e_aload_n (i := 0) 42 dX12_keyAt_41 rfl rfl rfl ?_
        refine e_getr (j := 3) 45 fl_12_21 dX12_keyAt_42 at_928 rfl rfl tp_928_3 rfl ?_
        refine e_aload_n (i := 0) 46 dX12_keyAt_45 rfl rfl rfl ?_
        refine e_geti (j := 6) 49 fl_12_97 dX12_keyAt_46 at_928 (by decide) rfl rfl (fun r46 => ?_)
        simp (disch := omega) only [put_r6, put_w6, put_r7, put_w7, put_r9, put_w9, put_r10, put_w10, put_r11, put_w11, put_r12, put_w12, put_r13, put_w13, put_r14, put_w14, put_r15, put_w15, put_ra, put_r8, put_r0, put_rt, put_wa, u1, u2, hn8] at r46 ⊢
        refine e_iload_n (i := 3) 50 dX12_keyAt_49 rfl rfl rfl ?_
        refine e_iadd 51 dX12_keyAt_50 rfl ?_
        refine e_iald 52 dX12_keyAt_51 ar_931 (by omega) (by omega) rfl (fun r51 => ?_)
        simp (disch := omega) only [put_r6, put_w6, put_r7, put_w7, put_r9, put_w9, put_r10, put_w10, put_r11, put_w11, put_r12, put_w12, put_r13, put_w13, put_r14, put_w14, put_r15, put_w15, put_ra, put_r8, put_r0, put_rt, put_wa, u1, u2, hn8, Int.reduceAdd, Int.add_zero] at r51 ⊢
        refine e_ldcS 54 (i := 20) (by decide) rfl rfl dX12_keyAt_52 rfl ?_
        refine e_iload_n (i := 2) 55 dX12_keyAt_54 rfl rfl rfl ?_
        refine e_iload_n (i := 3) 56 dX12_keyAt_55 rfl rfl rfl ?_
        refine e_iadd 57 dX12_keyAt_56 rfl ?_
        refine e_callF (av := [jI _]) 60 (i := 20) (by decide) mt_yJ_charAt mv_yJ_charAt wd_1410 (by decide) dX12_keyAt_57 rfl rfl rfl (Nat.le_of_ble_eq_true rfl) (jroom (by decide)) rfl (c_charAt (i := 20) (k := 97) (z := 121) (by decide) (by decide) (by decide +kernel) ?_)
        dsimp only [jpush]
        (try simp (disch := omega) only [put_r6, put_w6, put_r7, put_w7, put_r9, put_w9, put_r10, put_w10, put_r11, put_w11, put_r12, put_w12, put_r13, put_w13, put_r14, put_w14, put_r15, put_w15, put_ra, put_r8, put_r0, put_rt, put_wa, u1, u2, hn8])
        refine e_icmp_ne 63 69 dX12_keyAt_60 (by omega) (by decide) (by decide) rfl (fun b60 => ?_) (fun b60 => ?_)
        · skip
          refine e_ldcS 71 (i := 20) (by decide) rfl rfl dX12_keyAt_69 rfl ?_
          refine e_iload_n (i := 2) 72 dX12_keyAt_71 rfl rfl rfl ?_
          refine e_iload_n (i := 3) 73 dX12_keyAt_72 rfl rfl rfl ?_
          refine e_iadd 74 dX12_keyAt_73 rfl ?_
          refine e_callF (av := [jI _]) 77 (i := 20) (by decide) mt_yJ_charAt mv_yJ_charAt wd_1410 (by decide) dX12_keyAt_74 rfl rfl rfl (Nat.le_of_ble_eq_true rfl) (jroom (by decide)) rfl (c_charAt (i := 20) (k := 97) (z := 121) (by decide) (by decide) (by decide +kernel) ?_)
          dsimp only [jpush]
          (try simp (disch := omega) only [put_r6, put_w6, put_r7, put_w7, put_r9, put_w9, put_r10, put_w10, put_r11, put_w11, put_r12, put_w12, put_r13, put_w13, put_r14, put_w14, put_r15, put_w15, put_ra, put_r8, put_r0, put_rt, put_wa, u1, u2, hn8])
          refine e_bipush 79 dX12_keyAt_77 (by decide) rfl ?_
          refine e_icmp_ne 82 97 dX12_keyAt_79 (by decide) (by decide) (by decide) rfl (fun _ => ?_) (fun h => absurd h (by decide))
          refine e_ls (ls2 := [(0, _), (1, _), (2, _)]) rfl ?_
          refine sk_19 (kk_20 hT hp hb ?_)
          rw [kx19, if_neg (fun q => by omega)] at h
          exact h
        · skip
          refine e_iinc (lsn := [(3, _), (0, _), (1, _), (2, _)]) 66 dX12_keyAt_63 rfl (by decide) rfl rfl ?_
          refine e_goto 15 dX12_keyAt_66 (by decide) ?_
          refine e_ldcS 17 (i := 20) (by decide) rfl rfl dX12_keyAt_15 rfl ?_
          refine e_iload_n (i := 2) 18 dX12_keyAt_17 rfl rfl rfl ?_
          refine e_iload_n (i := 3) 19 dX12_keyAt_18 rfl rfl rfl ?_
          refine e_iadd 20 dX12_keyAt_19 rfl ?_
          refine e_callF (av := [jI _]) 23 (i := 20) (by decide) mt_yJ_charAt mv_yJ_charAt wd_1410 (by decide) dX12_keyAt_20 rfl rfl rfl (Nat.le_of_ble_eq_true rfl) (jroom (by decide)) rfl (c_charAt (i := 20) (k := 98) (z := 32) (by decide) (by decide) (by decide +kernel) ?_)
          dsimp only [jpush]
          (try simp (disch := omega) only [put_r6, put_w6, put_r7, put_w7, put_r9, put_w9, put_r10, put_w10, put_r11, put_w11, put_r12, put_w12, put_r13, put_w13, put_r14, put_w14, put_r15, put_w15, put_ra, put_r8, put_r0, put_rt, put_wa, u1, u2, hn8])
          refine e_bipush 25 dX12_keyAt_23 (by decide) rfl ?_
          refine e_icmp_eq 28 69 dX12_keyAt_25 (by decide) (by decide) (by decide) rfl (fun _ => ?_) (fun h => absurd h (by decide))
          refine e_ldcS 71 (i := 20) (by decide) rfl rfl dX12_keyAt_69 rfl ?_
          refine e_iload_n (i := 2) 72 dX12_keyAt_71 rfl rfl rfl ?_
          refine e_iload_n (i := 3) 73 dX12_keyAt_72 rfl rfl rfl ?_
          refine e_iadd 74 dX12_keyAt_73 rfl ?_
          refine e_callF (av := [jI _]) 77 (i := 20) (by decide) mt_yJ_charAt mv_yJ_charAt wd_1410 (by decide) dX12_keyAt_74 rfl rfl rfl (Nat.le_of_ble_eq_true rfl) (jroom (by decide)) rfl (c_charAt (i := 20) (k := 98) (z := 32) (by decide) (by decide) (by decide +kernel) ?_)
          dsimp only [jpush]
          (try simp (disch := omega) only [put_r6, put_w6, put_r7, put_w7, put_r9, put_w9, put_r10, put_w10, put_r11, put_w11, put_r12, put_w12, put_r13, put_w13, put_r14, put_w14, put_r15, put_w15, put_ra, put_r8, put_r0, put_rt, put_wa, u1, u2, hn8])
          refine e_bipush 79 dX12_keyAt_77 (by decide) rfl ?_
          refine e_icmp_ne 82 97 dX12_keyAt_79 (by decide) (by decide) (by decide) rfl (fun h => absurd h (by decide)) (fun _ => ?_)
          refine e_aload_n (i := 0) 83 dX12_keyAt_82 rfl rfl rfl ?_
          refine e_geti (j := 6) 86 fl_12_97 dX12_keyAt_83 at_928 (by decide) rfl rfl (fun r83 => ?_)
          simp (disch := omega) only [put_r6, put_w6, put_r7, put_w7, put_r9, put_w9, put_r10, put_w10, put_r11, put_w11, put_r12, put_w12, put_r13, put_w13, put_r14, put_w14, put_r15, put_w15, put_ra, put_r8, put_r0, put_rt, put_wa, u1, u2, hn8] at r83 ⊢
          refine e_iload_n (i := 3) 87 dX12_keyAt_86 rfl rfl rfl ?_
          refine e_iadd 88 dX12_keyAt_87 rfl ?_
          refine e_aload_n (i := 0) 89 dX12_keyAt_88 rfl rfl rfl ?_
          refine e_geti (j := 7) 92 fl_12_100 dX12_keyAt_89 at_928 (by decide) rfl rfl (fun r89 => ?_)
          simp (disch := omega) only [put_r6, put_w6, put_r7, put_w7, put_r9, put_w9, put_r10, put_w10, put_r11, put_w11, put_r12, put_w12, put_r13, put_w13, put_r14, put_w14, put_r15, put_w15, put_ra, put_r8, put_r0, put_rt, put_wa, u1, u2, hn8] at r89 ⊢
          refine e_icmp_ne 95 97 dX12_keyAt_92 (by omega) (by omega) (by decide) rfl (fun b92 => ?_) (fun b92 => ?_)
          · skip
            refine e_ls (ls2 := [(0, _), (1, _), (2, _)]) rfl ?_
            refine sk_19 (kk_20 hT hp hb ?_)
            rw [kx19, if_neg (fun q => by omega)] at h
            exact h
          · skip
            refine e_iload_n (i := 1) 96 dX12_keyAt_95 rfl rfl rfl ?_
            refine e_iret dX12_keyAt_96 ?_
            rw [kx19, if_pos (by omega)] at h
            exact h

theorem sk_18 {X : jX} {Y : jM} {Q : Int → jM → Prop} (h : jE X yX12_keyAt cX12_keyAt 4 (some .int) 5 Q Y 4 [(0, jR 928), (1, jI 19), (2, jI 96)] []) : jE X yX12_keyAt cX12_keyAt 4 (some .int) 5 Q Y 97 [(0, jR 928), (1, jI 18), (2, jI 90)] [] := by
  refine e_ldcS 99 (i := 20) (by decide) rfl rfl dX12_keyAt_97 rfl ?_
  refine e_iload_n (i := 2) 100 dX12_keyAt_99 rfl rfl rfl ?_
  refine e_callF (av := [jI _]) 103 (i := 20) (by decide) mt_yJ_charAt mv_yJ_charAt wd_1410 (by decide) dX12_keyAt_100 rfl rfl rfl (Nat.le_of_ble_eq_true rfl) (jroom (by decide)) rfl (c_charAt (i := 20) (k := 90) (z := 115) (by decide) (by decide) (by decide +kernel) ?_)
  dsimp only [jpush]
  refine e_bipush 105 dX12_keyAt_103 (by decide) rfl ?_
  refine e_icmp_eq 108 114 dX12_keyAt_105 (by decide) (by decide) (by decide) rfl (fun h => absurd h (by decide)) (fun _ => ?_)
  refine e_iinc (lsn := [(2, _), (0, _), (1, _)]) 111 dX12_keyAt_108 rfl (by decide) rfl rfl ?_
  refine e_goto 97 dX12_keyAt_111 (by decide) ?_
  refine e_ldcS 99 (i := 20) (by decide) rfl rfl dX12_keyAt_97 rfl ?_
  refine e_iload_n (i := 2) 100 dX12_keyAt_99 rfl rfl rfl ?_
  refine e_callF (av := [jI _]) 103 (i := 20) (by decide) mt_yJ_charAt mv_yJ_charAt wd_1410 (by decide) dX12_keyAt_100 rfl rfl rfl (Nat.le_of_ble_eq_true rfl) (jroom (by decide)) rfl (c_charAt (i := 20) (k := 91) (z := 105) (by decide) (by decide) (by decide +kernel) ?_)
  dsimp only [jpush]
  refine e_bipush 105 dX12_keyAt_103 (by decide) rfl ?_
  refine e_icmp_eq 108 114 dX12_keyAt_105 (by decide) (by decide) (by decide) rfl (fun h => absurd h (by decide)) (fun _ => ?_)
  refine e_iinc (lsn := [(2, _), (0, _), (1, _)]) 111 dX12_keyAt_108 rfl (by decide) rfl rfl ?_
  refine e_goto 97 dX12_keyAt_111 (by decide) ?_
  refine e_ldcS 99 (i := 20) (by decide) rfl rfl dX12_keyAt_97 rfl ?_
  refine e_iload_n (i := 2) 100 dX12_keyAt_99 rfl rfl rfl ?_
  refine e_callF (av := [jI _]) 103 (i := 20) (by decide) mt_yJ_charAt mv_yJ_charAt wd_1410 (by decide) dX12_keyAt_100 rfl rfl rfl (Nat.le_of_ble_eq_true rfl) (jroom (by decide)) rfl (c_charAt (i := 20) (k := 92) (z := 110) (by decide) (by decide) (by decide +kernel) ?_)
  dsimp only [jpush]
  refine e_bipush 105 dX12_keyAt_103 (by decide) rfl ?_
  refine e_icmp_eq 108 114 dX12_keyAt_105 (by decide) (by decide) (by decide) rfl (fun h => absurd h (by decide)) (fun _ => ?_)
  refine e_iinc (lsn := [(2, _), (0, _), (1, _)]) 111 dX12_keyAt_108 rfl (by decide) rfl rfl ?_
  refine e_goto 97 dX12_keyAt_111 (by decide) ?_
  refine e_ldcS 99 (i := 20) (by decide) rfl rfl dX12_keyAt_97 rfl ?_
  refine e_iload_n (i := 2) 100 dX12_keyAt_99 rfl rfl rfl ?_
  refine e_callF (av := [jI _]) 103 (i := 20) (by decide) mt_yJ_charAt mv_yJ_charAt wd_1410 (by decide) dX12_keyAt_100 rfl rfl rfl (Nat.le_of_ble_eq_true rfl) (jroom (by decide)) rfl (c_charAt (i := 20) (k := 93) (z := 99) (by decide) (by decide) (by decide +kernel) ?_)
  dsimp only [jpush]
  refine e_bipush 105 dX12_keyAt_103 (by decide) rfl ?_
  refine e_icmp_eq 108 114 dX12_keyAt_105 (by decide) (by decide) (by decide) rfl (fun h => absurd h (by decide)) (fun _ => ?_)
  refine e_iinc (lsn := [(2, _), (0, _), (1, _)]) 111 dX12_keyAt_108 rfl (by decide) rfl rfl ?_
  refine e_goto 97 dX12_keyAt_111 (by decide) ?_
  refine e_ldcS 99 (i := 20) (by decide) rfl rfl dX12_keyAt_97 rfl ?_
  refine e_iload_n (i := 2) 100 dX12_keyAt_99 rfl rfl rfl ?_
  refine e_callF (av := [jI _]) 103 (i := 20) (by decide) mt_yJ_charAt mv_yJ_charAt wd_1410 (by decide) dX12_keyAt_100 rfl rfl rfl (Nat.le_of_ble_eq_true rfl) (jroom (by decide)) rfl (c_charAt (i := 20) (k := 94) (z := 101) (by decide) (by decide) (by decide +kernel) ?_)
  dsimp only [jpush]
  refine e_bipush 105 dX12_keyAt_103 (by decide) rfl ?_
  refine e_icmp_eq 108 114 dX12_keyAt_105 (by decide) (by decide) (by decide) rfl (fun h => absurd h (by decide)) (fun _ => ?_)
  refine e_iinc (lsn := [(2, _), (0, _), (1, _)]) 111 dX12_keyAt_108 rfl (by decide) rfl rfl ?_
  refine e_goto 97 dX12_keyAt_111 (by decide) ?_
  refine e_ldcS 99 (i := 20) (by decide) rfl rfl dX12_keyAt_97 rfl ?_
  refine e_iload_n (i := 2) 100 dX12_keyAt_99 rfl rfl rfl ?_
  refine e_callF (av := [jI _]) 103 (i := 20) (by decide) mt_yJ_charAt mv_yJ_charAt wd_1410 (by decide) dX12_keyAt_100 rfl rfl rfl (Nat.le_of_ble_eq_true rfl) (jroom (by decide)) rfl (c_charAt (i := 20) (k := 95) (z := 32) (by decide) (by decide) (by decide +kernel) ?_)
  dsimp only [jpush]
  refine e_bipush 105 dX12_keyAt_103 (by decide) rfl ?_
  refine e_icmp_eq 108 114 dX12_keyAt_105 (by decide) (by decide) (by decide) rfl (fun _ => ?_) (fun h => absurd h (by decide))
  refine e_iinc (lsn := [(2, _), (0, _), (1, _)]) 117 dX12_keyAt_114 rfl (by decide) rfl rfl ?_
  refine e_iinc (lsn := [(1, _), (2, _), (0, _)]) 120 dX12_keyAt_117 rfl (by decide) rfl rfl ?_
  refine e_goto 4 dX12_keyAt_120 (by decide) ?_
  refine e_ls (ls2 := [(0, _), (1, _), (2, _)]) rfl ?_
  exact h

theorem kk_18 {X : jX} {M : jM} {n : Int} {Q : Int → jM → Prop} (hT : RT M n) {s : PS} (hp : 0 ≤ s.1) (hb : s.1 ≤ s.2.1 ∧ s.2.1 ≤ n) (h : Q (kx18 (M 931) s.1 s.2.1) (put M s)) : jE X yX12_keyAt cX12_keyAt 4 (some .int) 5 Q (put M s) 4 [(0, jR 928), (1, jI 18), (2, jI 90)] [] := by
  have hn8 := hT.1
  have hn := hT.2.1
  refine e_iload_n (i := 2) 5 dX12_keyAt_4 rfl rfl rfl ?_
  refine e_ldcS 7 (i := 20) (by decide) rfl rfl dX12_keyAt_5 rfl ?_
  refine e_callF (av := []) 10 (i := 20) (by decide) mt_yJ_len mv_yJ_len wd_1409 (by decide) dX12_keyAt_7 rfl rfl rfl (Nat.le_of_ble_eq_true rfl) (jroom (by decide)) rfl (c_strlen (i := 20) (z := 99) (by decide) (by decide) ?_)
  dsimp only [jpush]
  (try simp (disch := omega) only [put_r6, put_w6, put_r7, put_w7, put_r9, put_w9, put_r10, put_w10, put_r11, put_w11, put_r12, put_w12, put_r13, put_w13, put_r14, put_w14, put_r15, put_w15, put_ra, put_r8, put_r0, put_rt, put_wa, u1, u2, hn8])
  refine e_icmp_ge 13 123 dX12_keyAt_10 (by decide) (by decide) (by decide) rfl (fun h => absurd h (by decide)) (fun _ => ?_)
  refine e_iconst 14 dX12_keyAt_13 rfl ?_
  refine e_istore_n (i := 3) (lsn := [(3, _), (0, _), (1, _), (2, _)]) 15 dX12_keyAt_14 rfl (by decide) rfl rfl ?_
  refine e_ldcS 17 (i := 20) (by decide) rfl rfl dX12_keyAt_15 rfl ?_
  refine e_iload_n (i := 2) 18 dX12_keyAt_17 rfl rfl rfl ?_
  refine e_iload_n (i := 3) 19 dX12_keyAt_18 rfl rfl rfl ?_
  refine e_iadd 20 dX12_keyAt_19 rfl ?_
  refine e_callF (av := [jI _]) 23 (i := 20) (by decide) mt_yJ_charAt mv_yJ_charAt wd_1410 (by decide) dX12_keyAt_20 rfl rfl rfl (Nat.le_of_ble_eq_true rfl) (jroom (by decide)) rfl (c_charAt (i := 20) (k := 90) (z := 115) (by decide) (by decide) (by decide +kernel) ?_)
  dsimp only [jpush]
  (try simp (disch := omega) only [put_r6, put_w6, put_r7, put_w7, put_r9, put_w9, put_r10, put_w10, put_r11, put_w11, put_r12, put_w12, put_r13, put_w13, put_r14, put_w14, put_r15, put_w15, put_ra, put_r8, put_r0, put_rt, put_wa, u1, u2, hn8])
  refine e_bipush 25 dX12_keyAt_23 (by decide) rfl ?_
  refine e_icmp_eq 28 69 dX12_keyAt_25 (by decide) (by decide) (by decide) rfl (fun h => absurd h (by decide)) (fun _ => ?_)
  refine e_aload_n (i := 0) 29 dX12_keyAt_28 rfl rfl rfl ?_
  refine e_geti (j := 6) 32 fl_12_97 dX12_keyAt_29 at_928 (by decide) rfl rfl (fun r29 => ?_)
  simp (disch := omega) only [put_r6, put_w6, put_r7, put_w7, put_r9, put_w9, put_r10, put_w10, put_r11, put_w11, put_r12, put_w12, put_r13, put_w13, put_r14, put_w14, put_r15, put_w15, put_ra, put_r8, put_r0, put_rt, put_wa, u1, u2, hn8] at r29 ⊢
  refine e_iload_n (i := 3) 33 dX12_keyAt_32 rfl rfl rfl ?_
  refine e_iadd 34 dX12_keyAt_33 rfl ?_
  refine e_aload_n (i := 0) 35 dX12_keyAt_34 rfl rfl rfl ?_
  refine e_geti (j := 7) 38 fl_12_100 dX12_keyAt_35 at_928 (by decide) rfl rfl (fun r35 => ?_)
  simp (disch := omega) only [put_r6, put_w6, put_r7, put_w7, put_r9, put_w9, put_r10, put_w10, put_r11, put_w11, put_r12, put_w12, put_r13, put_w13, put_r14, put_w14, put_r15, put_w15, put_ra, put_r8, put_r0, put_rt, put_wa, u1, u2, hn8] at r35 ⊢
  refine e_icmp_ge 41 69 dX12_keyAt_38 (by omega) (by omega) (by decide) rfl (fun b38 => ?_) (fun b38 => ?_)
  · skip
    refine e_ldcS 71 (i := 20) (by decide) rfl rfl dX12_keyAt_69 rfl ?_
    refine e_iload_n (i := 2) 72 dX12_keyAt_71 rfl rfl rfl ?_
    refine e_iload_n (i := 3) 73 dX12_keyAt_72 rfl rfl rfl ?_
    refine e_iadd 74 dX12_keyAt_73 rfl ?_
    refine e_callF (av := [jI _]) 77 (i := 20) (by decide) mt_yJ_charAt mv_yJ_charAt wd_1410 (by decide) dX12_keyAt_74 rfl rfl rfl (Nat.le_of_ble_eq_true rfl) (jroom (by decide)) rfl (c_charAt (i := 20) (k := 90) (z := 115) (by decide) (by decide) (by decide +kernel) ?_)
    dsimp only [jpush]
    (try simp (disch := omega) only [put_r6, put_w6, put_r7, put_w7, put_r9, put_w9, put_r10, put_w10, put_r11, put_w11, put_r12, put_w12, put_r13, put_w13, put_r14, put_w14, put_r15, put_w15, put_ra, put_r8, put_r0, put_rt, put_wa, u1, u2, hn8])
    refine e_bipush 79 dX12_keyAt_77 (by decide) rfl ?_
    refine e_icmp_ne 82 97 dX12_keyAt_79 (by decide) (by decide) (by decide) rfl (fun _ => ?_) (fun h => absurd h (by decide))
    refine e_ls (ls2 := [(0, _), (1, _), (2, _)]) rfl ?_
    refine sk_18 (kk_19 hT hp hb ?_)
    rw [kx18, if_neg (fun q => by omega)] at h
    exact h
  · skip
    refine e_aload_n (i := 0) 42 dX12_keyAt_41 rfl rfl rfl ?_
    refine e_getr (j := 3) 45 fl_12_21 dX12_keyAt_42 at_928 rfl rfl tp_928_3 rfl ?_
    refine e_aload_n (i := 0) 46 dX12_keyAt_45 rfl rfl rfl ?_
    refine e_geti (j := 6) 49 fl_12_97 dX12_keyAt_46 at_928 (by decide) rfl rfl (fun r46 => ?_)
    simp (disch := omega) only [put_r6, put_w6, put_r7, put_w7, put_r9, put_w9, put_r10, put_w10, put_r11, put_w11, put_r12, put_w12, put_r13, put_w13, put_r14, put_w14, put_r15, put_w15, put_ra, put_r8, put_r0, put_rt, put_wa, u1, u2, hn8] at r46 ⊢
    refine e_iload_n (i := 3) 50 dX12_keyAt_49 rfl rfl rfl ?_
    refine e_iadd 51 dX12_keyAt_50 rfl ?_
    refine e_iald 52 dX12_keyAt_51 ar_931 (by omega) (by omega) rfl (fun r51 => ?_)
    simp (disch := omega) only [put_r6, put_w6, put_r7, put_w7, put_r9, put_w9, put_r10, put_w10, put_r11, put_w11, put_r12, put_w12, put_r13, put_w13, put_r14, put_w14, put_r15, put_w15, put_ra, put_r8, put_r0, put_rt, put_wa, u1, u2, hn8, Int.reduceAdd, Int.add_zero] at r51 ⊢
    refine e_ldcS 54 (i := 20) (by decide) rfl rfl dX12_keyAt_52 rfl ?_
    refine e_iload_n (i := 2) 55 dX12_keyAt_54 rfl rfl rfl ?_
    refine e_iload_n (i := 3) 56 dX12_keyAt_55 rfl rfl rfl ?_
    refine e_iadd 57 dX12_keyAt_56 rfl ?_
    refine e_callF (av := [jI _]) 60 (i := 20) (by decide) mt_yJ_charAt mv_yJ_charAt wd_1410 (by decide) dX12_keyAt_57 rfl rfl rfl (Nat.le_of_ble_eq_true rfl) (jroom (by decide)) rfl (c_charAt (i := 20) (k := 90) (z := 115) (by decide) (by decide) (by decide +kernel) ?_)
    dsimp only [jpush]
    (try simp (disch := omega) only [put_r6, put_w6, put_r7, put_w7, put_r9, put_w9, put_r10, put_w10, put_r11, put_w11, put_r12, put_w12, put_r13, put_w13, put_r14, put_w14, put_r15, put_w15, put_ra, put_r8, put_r0, put_rt, put_wa, u1, u2, hn8])
    refine e_icmp_ne 63 69 dX12_keyAt_60 (by omega) (by decide) (by decide) rfl (fun b60 => ?_) (fun b60 => ?_)
    · skip
      refine e_ldcS 71 (i := 20) (by decide) rfl rfl dX12_keyAt_69 rfl ?_
      refine e_iload_n (i := 2) 72 dX12_keyAt_71 rfl rfl rfl ?_
      refine e_iload_n (i := 3) 73 dX12_keyAt_72 rfl rfl rfl ?_
      refine e_iadd 74 dX12_keyAt_73 rfl ?_
      refine e_callF (av := [jI _]) 77 (i := 20) (by decide) mt_yJ_charAt mv_yJ_charAt wd_1410 (by decide) dX12_keyAt_74 rfl rfl rfl (Nat.le_of_ble_eq_true rfl) (jroom (by decide)) rfl (c_charAt (i := 20) (k := 90) (z := 115) (by decide) (by decide) (by decide +kernel) ?_)
      dsimp only [jpush]
      (try simp (disch := omega) only [put_r6, put_w6, put_r7, put_w7, put_r9, put_w9, put_r10, put_w10, put_r11, put_w11, put_r12, put_w12, put_r13, put_w13, put_r14, put_w14, put_r15, put_w15, put_ra, put_r8, put_r0, put_rt, put_wa, u1, u2, hn8])
      refine e_bipush 79 dX12_keyAt_77 (by decide) rfl ?_
      refine e_icmp_ne 82 97 dX12_keyAt_79 (by decide) (by decide) (by decide) rfl (fun _ => ?_) (fun h => absurd h (by decide))
      refine e_ls (ls2 := [(0, _), (1, _), (2, _)]) rfl ?_
      refine sk_18 (kk_19 hT hp hb ?_)
      rw [kx18, if_neg (fun q => by omega)] at h
      exact h
    · skip
      refine e_iinc (lsn := [(3, _), (0, _), (1, _), (2, _)]) 66 dX12_keyAt_63 rfl (by decide) rfl rfl ?_
      refine e_goto 15 dX12_keyAt_66 (by decide) ?_
      refine e_ldcS 17 (i := 20) (by decide) rfl rfl dX12_keyAt_15 rfl ?_
      refine e_iload_n (i := 2) 18 dX12_keyAt_17 rfl rfl rfl ?_
      refine e_iload_n (i := 3) 19 dX12_keyAt_18 rfl rfl rfl ?_
      refine e_iadd 20 dX12_keyAt_19 rfl ?_
      refine e_callF (av := [jI _]) 23 (i := 20) (by decide) mt_yJ_charAt mv_yJ_charAt wd_1410 (by decide) dX12_keyAt_20 rfl rfl rfl (Nat.le_of_ble_eq_true rfl) (jroom (by decide)) rfl (c_charAt (i := 20) (k := 91) (z := 105) (by decide) (by decide) (by decide +kernel) ?_)
      dsimp only [jpush]
      (try simp (disch := omega) only [put_r6, put_w6, put_r7, put_w7, put_r9, put_w9, put_r10, put_w10, put_r11, put_w11, put_r12, put_w12, put_r13, put_w13, put_r14, put_w14, put_r15, put_w15, put_ra, put_r8, put_r0, put_rt, put_wa, u1, u2, hn8])
      refine e_bipush 25 dX12_keyAt_23 (by decide) rfl ?_
      refine e_icmp_eq 28 69 dX12_keyAt_25 (by decide) (by decide) (by decide) rfl (fun h => absurd h (by decide)) (fun _ => ?_)
      refine e_aload_n (i := 0) 29 dX12_keyAt_28 rfl rfl rfl ?_
      refine e_geti (j := 6) 32 fl_12_97 dX12_keyAt_29 at_928 (by decide) rfl rfl (fun r29 => ?_)
      simp (disch := omega) only [put_r6, put_w6, put_r7, put_w7, put_r9, put_w9, put_r10, put_w10, put_r11, put_w11, put_r12, put_w12, put_r13, put_w13, put_r14, put_w14, put_r15, put_w15, put_ra, put_r8, put_r0, put_rt, put_wa, u1, u2, hn8] at r29 ⊢
      refine e_iload_n (i := 3) 33 dX12_keyAt_32 rfl rfl rfl ?_
      refine e_iadd 34 dX12_keyAt_33 rfl ?_
      refine e_aload_n (i := 0) 35 dX12_keyAt_34 rfl rfl rfl ?_
      refine e_geti (j := 7) 38 fl_12_100 dX12_keyAt_35 at_928 (by decide) rfl rfl (fun r35 => ?_)
      simp (disch := omega) only [put_r6, put_w6, put_r7, put_w7, put_r9, put_w9, put_r10, put_w10, put_r11, put_w11, put_r12, put_w12, put_r13, put_w13, put_r14, put_w14, put_r15, put_w15, put_ra, put_r8, put_r0, put_rt, put_wa, u1, u2, hn8] at r35 ⊢
      refine e_icmp_ge 41 69 dX12_keyAt_38 (by omega) (by omega) (by decide) rfl (fun b38 => ?_) (fun b38 => ?_)
      · skip
        refine e_ldcS 71 (i := 20) (by decide) rfl rfl dX12_keyAt_69 rfl ?_
        refine e_iload_n (i := 2) 72 dX12_keyAt_71 rfl rfl rfl ?_
        refine e_iload_n (i := 3) 73 dX12_keyAt_72 rfl rfl rfl ?_
        refine e_iadd 74 dX12_keyAt_73 rfl ?_
        refine e_callF (av := [jI _]) 77 (i := 20) (by decide) mt_yJ_charAt mv_yJ_charAt wd_1410 (by decide) dX12_keyAt_74 rfl rfl rfl (Nat.le_of_ble_eq_true rfl) (jroom (by decide)) rfl (c_charAt (i := 20) (k := 91) (z := 105) (by decide) (by decide) (by decide +kernel) ?_)
        dsimp only [jpush]
        (try simp (disch := omega) only [put_r6, put_w6, put_r7, put_w7, put_r9, put_w9, put_r10, put_w10, put_r11, put_w11, put_r12, put_w12, put_r13, put_w13, put_r14, put_w14, put_r15, put_w15, put_ra, put_r8, put_r0, put_rt, put_wa, u1, u2, hn8])
        refine e_bipush 79 dX12_keyAt_77 (by decide) rfl ?_
        refine e_icmp_ne 82 97 dX12_keyAt_79 (by decide) (by decide) (by decide) rfl (fun _ => ?_) (fun h => absurd h (by decide))
        refine e_ls (ls2 := [(0, _), (1, _), (2, _)]) rfl ?_
        refine sk_18 (kk_19 hT hp hb ?_)
        rw [kx18, if_neg (fun q => by omega)] at h
        exact h
      · skip
        refine e_aload_n (i := 0) 42 dX12_keyAt_41 rfl rfl rfl ?_
        refine e_getr (j := 3) 45 fl_12_21 dX12_keyAt_42 at_928 rfl rfl tp_928_3 rfl ?_
        refine e_aload_n (i := 0) 46 dX12_keyAt_45 rfl rfl rfl ?_
        refine e_geti (j := 6) 49 fl_12_97 dX12_keyAt_46 at_928 (by decide) rfl rfl (fun r46 => ?_)
        simp (disch := omega) only [put_r6, put_w6, put_r7, put_w7, put_r9, put_w9, put_r10, put_w10, put_r11, put_w11, put_r12, put_w12, put_r13, put_w13, put_r14, put_w14, put_r15, put_w15, put_ra, put_r8, put_r0, put_rt, put_wa, u1, u2, hn8] at r46 ⊢
        refine e_iload_n (i := 3) 50 dX12_keyAt_49 rfl rfl rfl ?_
        refine e_iadd 51 dX12_keyAt_50 rfl ?_
        refine e_iald 52 dX12_keyAt_51 ar_931 (by omega) (by omega) rfl (fun r51 => ?_)
        simp (disch := omega) only [put_r6, put_w6, put_r7, put_w7, put_r9, put_w9, put_r10, put_w10, put_r11, put_w11, put_r12, put_w12, put_r13, put_w13, put_r14, put_w14, put_r15, put_w15, put_ra, put_r8, put_r0, put_rt, put_wa, u1, u2, hn8, Int.reduceAdd, Int.add_zero] at r51 ⊢
        refine e_ldcS 54 (i := 20) (by decide) rfl rfl dX12_keyAt_52 rfl ?_
        refine e_iload_n (i := 2) 55 dX12_keyAt_54 rfl rfl rfl ?_
        refine e_iload_n (i := 3) 56 dX12_keyAt_55 rfl rfl rfl ?_
        refine e_iadd 57 dX12_keyAt_56 rfl ?_
        refine e_callF (av := [jI _]) 60 (i := 20) (by decide) mt_yJ_charAt mv_yJ_charAt wd_1410 (by decide) dX12_keyAt_57 rfl rfl rfl (Nat.le_of_ble_eq_true rfl) (jroom (by decide)) rfl (c_charAt (i := 20) (k := 91) (z := 105) (by decide) (by decide) (by decide +kernel) ?_)
        dsimp only [jpush]
        (try simp (disch := omega) only [put_r6, put_w6, put_r7, put_w7, put_r9, put_w9, put_r10, put_w10, put_r11, put_w11, put_r12, put_w12, put_r13, put_w13, put_r14, put_w14, put_r15, put_w15, put_ra, put_r8, put_r0, put_rt, put_wa, u1, u2, hn8])
        refine e_icmp_ne 63 69 dX12_keyAt_60 (by omega) (by decide) (by decide) rfl (fun b60 => ?_) (fun b60 => ?_)
        · skip
          refine e_ldcS 71 (i := 20) (by decide) rfl rfl dX12_keyAt_69 rfl ?_
          refine e_iload_n (i := 2) 72 dX12_keyAt_71 rfl rfl rfl ?_
          refine e_iload_n (i := 3) 73 dX12_keyAt_72 rfl rfl rfl ?_
          refine e_iadd 74 dX12_keyAt_73 rfl ?_
          refine e_callF (av := [jI _]) 77 (i := 20) (by decide) mt_yJ_charAt mv_yJ_charAt wd_1410 (by decide) dX12_keyAt_74 rfl rfl rfl (Nat.le_of_ble_eq_true rfl) (jroom (by decide)) rfl (c_charAt (i := 20) (k := 91) (z := 105) (by decide) (by decide) (by decide +kernel) ?_)
          dsimp only [jpush]
          (try simp (disch := omega) only [put_r6, put_w6, put_r7, put_w7, put_r9, put_w9, put_r10, put_w10, put_r11, put_w11, put_r12, put_w12, put_r13, put_w13, put_r14, put_w14, put_r15, put_w15, put_ra, put_r8, put_r0, put_rt, put_wa, u1, u2, hn8])
          refine e_bipush 79 dX12_keyAt_77 (by decide) rfl ?_
          refine e_icmp_ne 82 97 dX12_keyAt_79 (by decide) (by decide) (by decide) rfl (fun _ => ?_) (fun h => absurd h (by decide))
          refine e_ls (ls2 := [(0, _), (1, _), (2, _)]) rfl ?_
          refine sk_18 (kk_19 hT hp hb ?_)
          rw [kx18, if_neg (fun q => by omega)] at h
          exact h
        · skip
          refine e_iinc (lsn := [(3, _), (0, _), (1, _), (2, _)]) 66 dX12_keyAt_63 rfl (by decide) rfl rfl ?_
          refine e_goto 15 dX12_keyAt_66 (by decide) ?_
          refine e_ldcS 17 (i := 20) (by decide) rfl rfl dX12_keyAt_15 rfl ?_
          refine e_iload_n (i := 2) 18 dX12_keyAt_17 rfl rfl rfl ?_
          refine e_iload_n (i := 3) 19 dX12_keyAt_18 rfl rfl rfl ?_
          refine e_iadd 20 dX12_keyAt_19 rfl ?_
          refine e_callF (av := [jI _]) 23 (i := 20) (by decide) mt_yJ_charAt mv_yJ_charAt wd_1410 (by decide) dX12_keyAt_20 rfl rfl rfl (Nat.le_of_ble_eq_true rfl) (jroom (by decide)) rfl (c_charAt (i := 20) (k := 92) (z := 110) (by decide) (by decide) (by decide +kernel) ?_)
          dsimp only [jpush]
          (try simp (disch := omega) only [put_r6, put_w6, put_r7, put_w7, put_r9, put_w9, put_r10, put_w10, put_r11, put_w11, put_r12, put_w12, put_r13, put_w13, put_r14, put_w14, put_r15, put_w15, put_ra, put_r8, put_r0, put_rt, put_wa, u1, u2, hn8])
          refine e_bipush 25 dX12_keyAt_23 (by decide) rfl ?_
          refine e_icmp_eq 28 69 dX12_keyAt_25 (by decide) (by decide) (by decide) rfl (fun h => absurd h (by decide)) (fun _ => ?_)
          refine e_aload_n (i := 0) 29 dX12_keyAt_28 rfl rfl rfl ?_
          refine e_geti (j := 6) 32 fl_12_97 dX12_keyAt_29 at_928 (by decide) rfl rfl (fun r29 => ?_)
          simp (disch := omega) only [put_r6, put_w6, put_r7, put_w7, put_r9, put_w9, put_r10, put_w10, put_r11, put_w11, put_r12, put_w12, put_r13, put_w13, put_r14, put_w14, put_r15, put_w15, put_ra, put_r8, put_r0, put_rt, put_wa, u1, u2, hn8] at r29 ⊢
          refine e_iload_n (i := 3) 33 dX12_keyAt_32 rfl rfl rfl ?_
          refine e_iadd 34 dX12_keyAt_33 rfl ?_
          refine e_aload_n (i := 0) 35 dX12_keyAt_34 rfl rfl rfl ?_
          refine e_geti (j := 7) 38 fl_12_100 dX12_keyAt_35 at_928 (by decide) rfl rfl (fun r35 => ?_)
          simp (disch := omega) only [put_r6, put_w6, put_r7, put_w7, put_r9, put_w9, put_r10, put_w10, put_r11, put_w11, put_r12, put_w12, put_r13, put_w13, put_r14, put_w14, put_r15, put_w15, put_ra, put_r8, put_r0, put_rt, put_wa, u1, u2, hn8] at r35 ⊢
          refine e_icmp_ge 41 69 dX12_keyAt_38 (by omega) (by omega) (by decide) rfl (fun b38 => ?_) (fun b38 => ?_)
          · skip
            refine e_ldcS 71 (i := 20) (by decide) rfl rfl dX12_keyAt_69 rfl ?_
            refine e_iload_n (i := 2) 72 dX12_keyAt_71 rfl rfl rfl ?_
            refine e_iload_n (i := 3) 73 dX12_keyAt_72 rfl rfl rfl ?_
            refine e_iadd 74 dX12_keyAt_73 rfl ?_
            refine e_callF (av := [jI _]) 77 (i := 20) (by decide) mt_yJ_charAt mv_yJ_charAt wd_1410 (by decide) dX12_keyAt_74 rfl rfl rfl (Nat.le_of_ble_eq_true rfl) (jroom (by decide)) rfl (c_charAt (i := 20) (k := 92) (z := 110) (by decide) (by decide) (by decide +kernel) ?_)
            dsimp only [jpush]
            (try simp (disch := omega) only [put_r6, put_w6, put_r7, put_w7, put_r9, put_w9, put_r10, put_w10, put_r11, put_w11, put_r12, put_w12, put_r13, put_w13, put_r14, put_w14, put_r15, put_w15, put_ra, put_r8, put_r0, put_rt, put_wa, u1, u2, hn8])
            refine e_bipush 79 dX12_keyAt_77 (by decide) rfl ?_
            refine e_icmp_ne 82 97 dX12_keyAt_79 (by decide) (by decide) (by decide) rfl (fun _ => ?_) (fun h => absurd h (by decide))
            refine e_ls (ls2 := [(0, _), (1, _), (2, _)]) rfl ?_
            refine sk_18 (kk_19 hT hp hb ?_)
            rw [kx18, if_neg (fun q => by omega)] at h
            exact h
          · skip
            refine e_aload_n (i := 0) 42 dX12_keyAt_41 rfl rfl rfl ?_
            refine e_getr (j := 3) 45 fl_12_21 dX12_keyAt_42 at_928 rfl rfl tp_928_3 rfl ?_
            refine e_aload_n (i := 0) 46 dX12_keyAt_45 rfl rfl rfl ?_
            refine e_geti (j := 6) 49 fl_12_97 dX12_keyAt_46 at_928 (by decide) rfl rfl (fun r46 => ?_)
            simp (disch := omega) only [put_r6, put_w6, put_r7, put_w7, put_r9, put_w9, put_r10, put_w10, put_r11, put_w11, put_r12, put_w12, put_r13, put_w13, put_r14, put_w14, put_r15, put_w15, put_ra, put_r8, put_r0, put_rt, put_wa, u1, u2, hn8] at r46 ⊢
            refine e_iload_n (i := 3) 50 dX12_keyAt_49 rfl rfl rfl ?_
            refine e_iadd 51 dX12_keyAt_50 rfl ?_
            refine e_iald 52 dX12_keyAt_51 ar_931 (by omega) (by omega) rfl (fun r51 => ?_)
            simp (disch := omega) only [put_r6, put_w6, put_r7, put_w7, put_r9, put_w9, put_r10, put_w10, put_r11, put_w11, put_r12, put_w12, put_r13, put_w13, put_r14, put_w14, put_r15, put_w15, put_ra, put_r8, put_r0, put_rt, put_wa, u1, u2, hn8, Int.reduceAdd, Int.add_zero] at r51 ⊢
            refine e_ldcS 54 (i := 20) (by decide) rfl rfl dX12_keyAt_52 rfl ?_
            refine e_iload_n (i := 2) 55 dX12_keyAt_54 rfl rfl rfl ?_
            refine e_iload_n (i := 3) 56 dX12_keyAt_55 rfl rfl rfl ?_
            refine e_iadd 57 dX12_keyAt_56 rfl ?_
            refine e_callF (av := [jI _]) 60 (i := 20) (by decide) mt_yJ_charAt mv_yJ_charAt wd_1410 (by decide) dX12_keyAt_57 rfl rfl rfl (Nat.le_of_ble_eq_true rfl) (jroom (by decide)) rfl (c_charAt (i := 20) (k := 92) (z := 110) (by decide) (by decide) (by decide +kernel) ?_)
            dsimp only [jpush]
            (try simp (disch := omega) only [put_r6, put_w6, put_r7, put_w7, put_r9, put_w9, put_r10, put_w10, put_r11, put_w11, put_r12, put_w12, put_r13, put_w13, put_r14, put_w14, put_r15, put_w15, put_ra, put_r8, put_r0, put_rt, put_wa, u1, u2, hn8])
            refine e_icmp_ne 63 69 dX12_keyAt_60 (by omega) (by decide) (by decide) rfl (fun b60 => ?_) (fun b60 => ?_)
            · skip
              refine e_ldcS 71 (i := 20) (by decide) rfl rfl dX12_keyAt_69 rfl ?_
              refine e_iload_n (i := 2) 72 dX12_keyAt_71 rfl rfl rfl ?_
              refine e_iload_n (i := 3) 73 dX12_keyAt_72 rfl rfl rfl ?_
              refine e_iadd 74 dX12_keyAt_73 rfl ?_
              refine e_callF (av := [jI _]) 77 (i := 20) (by decide) mt_yJ_charAt mv_yJ_charAt wd_1410 (by decide) dX12_keyAt_74 rfl rfl rfl (Nat.le_of_ble_eq_true rfl) (jroom (by decide)) rfl (c_charAt (i := 20) (k := 92) (z := 110) (by decide) (by decide) (by decide +kernel) ?_)
              dsimp only [jpush]
              (try simp (disch := omega) only [put_r6, put_w6, put_r7, put_w7, put_r9, put_w9, put_r10, put_w10, put_r11, put_w11, put_r12, put_w12, put_r13, put_w13, put_r14, put_w14, put_r15, put_w15, put_ra, put_r8, put_r0, put_rt, put_wa, u1, u2, hn8])
              refine e_bipush 79 dX12_keyAt_77 (by decide) rfl ?_
              refine e_icmp_ne 82 97 dX12_keyAt_79 (by decide) (by decide) (by decide) rfl (fun _ => ?_) (fun h => absurd h (by decide))
              refine e_ls (ls2 := [(0, _), (1, _), (2, _)]) rfl ?_
              refine sk_18 (kk_19 hT hp hb ?_)
              rw [kx18, if_neg (fun q => by omega)] at h
              exact h
            · skip
              refine e_iinc (lsn := [(3, _), (0, _), (1, _), (2, _)]) 66 dX12_keyAt_63 rfl (by decide) rfl rfl ?_
              refine e_goto 15 dX12_keyAt_66 (by decide) ?_
              refine e_ldcS 17 (i := 20) (by decide) rfl rfl dX12_keyAt_15 rfl ?_
              refine e_iload_n (i := 2) 18 dX12_keyAt_17 rfl rfl rfl ?_
              refine e_iload_n (i := 3) 19 dX12_keyAt_18 rfl rfl rfl ?_
              refine e_iadd 20 dX12_keyAt_19 rfl ?_
              refine e_callF (av := [jI _]) 23 (i := 20) (by decide) mt_yJ_charAt mv_yJ_charAt wd_1410 (by decide) dX12_keyAt_20 rfl rfl rfl (Nat.le_of_ble_eq_true rfl) (jroom (by decide)) rfl (c_charAt (i := 20) (k := 93) (z := 99) (by decide) (by decide) (by decide +kernel) ?_)
              dsimp only [jpush]
              (try simp (disch := omega) only [put_r6, put_w6, put_r7, put_w7, put_r9, put_w9, put_r10, put_w10, put_r11, put_w11, put_r12, put_w12, put_r13, put_w13, put_r14, put_w14, put_r15, put_w15, put_ra, put_r8, put_r0, put_rt, put_wa, u1, u2, hn8])
              refine e_bipush 25 dX12_keyAt_23 (by decide) rfl ?_
              refine e_icmp_eq 28 69 dX12_keyAt_25 (by decide) (by decide) (by decide) rfl (fun h => absurd h (by decide)) (fun _ => ?_)
              refine e_aload_n (i := 0) 29 dX12_keyAt_28 rfl rfl rfl ?_
              refine e_geti (j := 6) 32 fl_12_97 dX12_keyAt_29 at_928 (by decide) rfl rfl (fun r29 => ?_)
              simp (disch := omega) only [put_r6, put_w6, put_r7, put_w7, put_r9, put_w9, put_r10, put_w10, put_r11, put_w11, put_r12, put_w12, put_r13, put_w13, put_r14, put_w14, put_r15, put_w15, put_ra, put_r8, put_r0, put_rt, put_wa, u1, u2, hn8] at r29 ⊢
              refine e_iload_n (i := 3) 33 dX12_keyAt_32 rfl rfl rfl ?_
              refine e_iadd 34 dX12_keyAt_33 rfl ?_
              refine e_aload_n (i := 0) 35 dX12_keyAt_34 rfl rfl rfl ?_
              refine e_geti (j := 7) 38 fl_12_100 dX12_keyAt_35 at_928 (by decide) rfl rfl (fun r35 => ?_)
              simp (disch := omega) only [put_r6, put_w6, put_r7, put_w7, put_r9, put_w9, put_r10, put_w10, put_r11, put_w11, put_r12, put_w12, put_r13, put_w13, put_r14, put_w14, put_r15, put_w15, put_ra, put_r8, put_r0, put_rt, put_wa, u1, u2, hn8] at r35 ⊢
              refine e_icmp_ge 41 69 dX12_keyAt_38 (by omega) (by omega) (by decide) rfl (fun b38 => ?_) (fun b38 => ?_)
              · skip
                refine e_ldcS 71 (i := 20) (by decide) rfl rfl dX12_keyAt_69 rfl ?_
                refine e_iload_n (i := 2) 72 dX12_keyAt_71 rfl rfl rfl ?_
                refine e_iload_n (i := 3) 73 dX12_keyAt_72 rfl rfl rfl ?_
                refine e_iadd 74 dX12_keyAt_73 rfl ?_
                refine e_callF (av := [jI _]) 77 (i := 20) (by decide) mt_yJ_charAt mv_yJ_charAt wd_1410 (by decide) dX12_keyAt_74 rfl rfl rfl (Nat.le_of_ble_eq_true rfl) (jroom (by decide)) rfl (c_charAt (i := 20) (k := 93) (z := 99) (by decide) (by decide) (by decide +kernel) ?_)
                dsimp only [jpush]
                (try simp (disch := omega) only [put_r6, put_w6, put_r7, put_w7, put_r9, put_w9, put_r10, put_w10, put_r11, put_w11, put_r12, put_w12, put_r13, put_w13, put_r14, put_w14, put_r15, put_w15, put_ra, put_r8, put_r0, put_rt, put_wa, u1, u2, hn8])
                refine e_bipush 79 dX12_keyAt_77 (by decide) rfl ?_
                refine e_icmp_ne 82 97 dX12_keyAt_79 (by decide) (by decide) (by decide) rfl (fun _ => ?_) (fun h => absurd h (by decide))
                refine e_ls (ls2 := [(0, _), (1, _), (2, _)]) rfl ?_
                refine sk_18 (kk_19 hT hp hb ?_)
                rw [kx18, if_neg (fun q => by omega)] at h
                exact h
              · skip
                refine e_aload_n (i := 0) 42 dX12_keyAt_41 rfl rfl rfl ?_
                refine e_getr (j := 3) 45 fl_12_21 dX12_keyAt_42 at_928 rfl rfl tp_928_3 rfl ?_
                refine e_aload_n (i := 0) 46 dX12_keyAt_45 rfl rfl rfl ?_
                refine e_geti (j := 6) 49 fl_12_97 dX12_keyAt_46 at_928 (by decide) rfl rfl (fun r46 => ?_)
                simp (disch := omega) only [put_r6, put_w6, put_r7, put_w7, put_r9, put_w9, put_r10, put_w10, put_r11, put_w11, put_r12, put_w12, put_r13, put_w13, put_r14, put_w14, put_r15, put_w15, put_ra, put_r8, put_r0, put_rt, put_wa, u1, u2, hn8] at r46 ⊢
                refine e_iload_n (i := 3) 50 dX12_keyAt_49 rfl rfl rfl ?_
                refine e_iadd 51 dX12_keyAt_50 rfl ?_
                refine e_iald 52 dX12_keyAt_51 ar_931 (by omega) (by omega) rfl (fun r51 => ?_)
                simp (disch := omega) only [put_r6, put_w6, put_r7, put_w7, put_r9, put_w9, put_r10, put_w10, put_r11, put_w11, put_r12, put_w12, put_r13, put_w13, put_r14, put_w14, put_r15, put_w15, put_ra, put_r8, put_r0, put_rt, put_wa, u1, u2, hn8, Int.reduceAdd, Int.add_zero] at r51 ⊢
                refine e_ldcS 54 (i := 20) (by decide) rfl rfl dX12_keyAt_52 rfl ?_
                refine e_iload_n (i := 2) 55 dX12_keyAt_54 rfl rfl rfl ?_
                refine e_iload_n (i := 3) 56 dX12_keyAt_55 rfl rfl rfl ?_
                refine e_iadd 57 dX12_keyAt_56 rfl ?_
                refine e_callF (av := [jI _]) 60 (i := 20) (by decide) mt_yJ_charAt mv_yJ_charAt wd_1410 (by decide) dX12_keyAt_57 rfl rfl rfl (Nat.le_of_ble_eq_true rfl) (jroom (by decide)) rfl (c_charAt (i := 20) (k := 93) (z := 99) (by decide) (by decide) (by decide +kernel) ?_)
                dsimp only [jpush]
                (try simp (disch := omega) only [put_r6, put_w6, put_r7, put_w7, put_r9, put_w9, put_r10, put_w10, put_r11, put_w11, put_r12, put_w12, put_r13, put_w13, put_r14, put_w14, put_r15, put_w15, put_ra, put_r8, put_r0, put_rt, put_wa, u1, u2, hn8])
                refine e_icmp_ne 63 69 dX12_keyAt_60 (by omega) (by decide) (by decide) rfl (fun b60 => ?_) (fun b60 => ?_)
                · skip
                  refine e_ldcS 71 (i := 20) (by decide) rfl rfl dX12_keyAt_69 rfl ?_
                  refine e_iload_n (i := 2) 72 dX12_keyAt_71 rfl rfl rfl ?_
                  refine e_iload_n (i := 3) 73 dX12_keyAt_72 rfl rfl rfl ?_
                  refine e_iadd 74 dX12_keyAt_73 rfl ?_
                  refine e_callF (av := [jI _]) 77 (i := 20) (by decide) mt_yJ_charAt mv_yJ_charAt wd_1410 (by decide) dX12_keyAt_74 rfl rfl rfl (Nat.le_of_ble_eq_true rfl) (jroom (by decide)) rfl (c_charAt (i := 20) (k := 93) (z := 99) (by decide) (by decide) (by decide +kernel) ?_)
                  dsimp only [jpush]
                  (try simp (disch := omega) only [put_r6, put_w6, put_r7, put_w7, put_r9, put_w9, put_r10, put_w10, put_r11, put_w11, put_r12, put_w12, put_r13, put_w13, put_r14, put_w14, put_r15, put_w15, put_ra, put_r8, put_r0, put_rt, put_wa, u1, u2, hn8])
                  refine e_bipush 79 dX12_keyAt_77 (by decide) rfl ?_
                  refine e_icmp_ne 82 97 dX12_keyAt_79 (by decide) (by decide) (by decide) rfl (fun _ => ?_) (fun h => absurd h (by decide))
                  refine e_ls (ls2 := [(0, _), (1, _), (2, _)]) rfl ?_
                  refine sk_18 (kk_19 hT hp hb ?_)
                  rw [kx18, if_neg (fun q => by omega)] at h
                  exact h
                · skip
                  refine e_iinc (lsn := [(3, _), (0, _), (1, _), (2, _)]) 66 dX12_keyAt_63 rfl (by decide) rfl rfl ?_
                  refine e_goto 15 dX12_keyAt_66 (by decide) ?_
                  refine e_ldcS 17 (i := 20) (by decide) rfl rfl dX12_keyAt_15 rfl ?_
                  refine e_iload_n (i := 2) 18 dX12_keyAt_17 rfl rfl rfl ?_
                  refine e_iload_n (i := 3) 19 dX12_keyAt_18 rfl rfl rfl ?_
                  refine e_iadd 20 dX12_keyAt_19 rfl ?_
                  refine e_callF (av := [jI _]) 23 (i := 20) (by decide) mt_yJ_charAt mv_yJ_charAt wd_1410 (by decide) dX12_keyAt_20 rfl rfl rfl (Nat.le_of_ble_eq_true rfl) (jroom (by decide)) rfl (c_charAt (i := 20) (k := 94) (z := 101) (by decide) (by decide) (by decide +kernel) ?_)
                  dsimp only [jpush]
                  (try simp (disch := omega) only [put_r6, put_w6, put_r7, put_w7, put_r9, put_w9, put_r10, put_w10, put_r11, put_w11, put_r12, put_w12, put_r13, put_w13, put_r14, put_w14, put_r15, put_w15, put_ra, put_r8, put_r0, put_rt, put_wa, u1, u2, hn8])
                  refine e_bipush 25 dX12_keyAt_23 (by decide) rfl ?_
                  refine e_icmp_eq 28 69 dX12_keyAt_25 (by decide) (by decide) (by decide) rfl (fun h => absurd h (by decide)) (fun _ => ?_)
                  refine e_aload_n (i := 0) 29 dX12_keyAt_28 rfl rfl rfl ?_
                  refine e_geti (j := 6) 32 fl_12_97 dX12_keyAt_29 at_928 (by decide) rfl rfl (fun r29 => ?_)
                  simp (disch := omega) only [put_r6, put_w6, put_r7, put_w7, put_r9, put_w9, put_r10, put_w10, put_r11, put_w11, put_r12, put_w12, put_r13, put_w13, put_r14, put_w14, put_r15, put_w15, put_ra, put_r8, put_r0, put_rt, put_wa, u1, u2, hn8] at r29 ⊢
                  refine e_iload_n (i := 3) 33 dX12_keyAt_32 rfl rfl rfl ?_
                  refine e_iadd 34 dX12_keyAt_33 rfl ?_
                  refine e_aload_n (i := 0) 35 dX12_keyAt_34 rfl rfl rfl ?_
                  refine e_geti (j := 7) 38 fl_12_100 dX12_keyAt_35 at_928 (by decide) rfl rfl (fun r35 => ?_)
                  simp (disch := omega) only [put_r6, put_w6, put_r7, put_w7, put_r9, put_w9, put_r10, put_w10, put_r11, put_w11, put_r12, put_w12, put_r13, put_w13, put_r14, put_w14, put_r15, put_w15, put_ra, put_r8, put_r0, put_rt, put_wa, u1, u2, hn8] at r35 ⊢
                  refine e_icmp_ge 41 69 dX12_keyAt_38 (by omega) (by omega) (by decide) rfl (fun b38 => ?_) (fun b38 => ?_)
                  · skip
                    refine e_ldcS 71 (i := 20) (by decide) rfl rfl dX12_keyAt_69 rfl ?_
                    refine e_iload_n (i := 2) 72 dX12_keyAt_71 rfl rfl rfl ?_
                    refine e_iload_n (i := 3) 73 dX12_keyAt_72 rfl rfl rfl ?_
                    refine e_iadd 74 dX12_keyAt_73 rfl ?_
                    refine e_callF (av := [jI _]) 77 (i := 20) (by decide) mt_yJ_charAt mv_yJ_charAt wd_1410 (by decide) dX12_keyAt_74 rfl rfl rfl (Nat.le_of_ble_eq_true rfl) (jroom (by decide)) rfl (c_charAt (i := 20) (k := 94) (z := 101) (by decide) (by decide) (by decide +kernel) ?_)
                    dsimp only [jpush]
                    (try simp (disch := omega) only [put_r6, put_w6, put_r7, put_w7, put_r9, put_w9, put_r10, put_w10, put_r11, put_w11, put_r12, put_w12, put_r13, put_w13, put_r14, put_w14, put_r15, put_w15, put_ra, put_r8, put_r0, put_rt, put_wa, u1, u2, hn8])
                    refine e_bipush 79 dX12_keyAt_77 (by decide) rfl ?_
                    refine e_icmp_ne 82 97 dX12_keyAt_79 (by decide) (by decide) (by decide) rfl (fun _ => ?_) (fun h => absurd h (by decide))
                    refine e_ls (ls2 := [(0, _), (1, _), (2, _)]) rfl ?_
                    refine sk_18 (kk_19 hT hp hb ?_)
                    rw [kx18, if_neg (fun q => by omega)] at h
                    exact h
                  · skip
                    refine e_aload_n (i := 0) 42 dX12_keyAt_41 rfl rfl rfl ?_
                    refine e_getr (j := 3) 45 fl_12_21 dX12_keyAt_42 at_928 rfl rfl tp_928_3 rfl ?_
                    refine e_aload_n (i := 0) 46 dX12_keyAt_45 rfl rfl rfl ?_
                    refine e_geti (j := 6) 49 fl_12_97 dX12_keyAt_46 at_928 (by decide) rfl rfl (fun r46 => ?_)
                    simp (disch := omega) only [put_r6, put_w6, put_r7, put_w7, put_r9, put_w9, put_r10, put_w10, put_r11, put_w11, put_r12, put_w12, put_r13, put_w13, put_r14, put_w14, put_r15, put_w15, put_ra, put_r8, put_r0, put_rt, put_wa, u1, u2, hn8] at r46 ⊢
                    refine e_iload_n (i := 3) 50 dX12_keyAt_49 rfl rfl rfl ?_
                    refine e_iadd 51 dX12_keyAt_50 rfl ?_
                    refine e_iald 52 dX12_keyAt_51 ar_931 (by omega) (by omega) rfl (fun r51 => ?_)
                    simp (disch := omega) only [put_r6, put_w6, put_r7, put_w7, put_r9, put_w9, put_r10, put_w10, put_r11, put_w11, put_r12, put_w12, put_r13, put_w13, put_r14, put_w14, put_r15, put_w15, put_ra, put_r8, put_r0, put_rt, put_wa, u1, u2, hn8, Int.reduceAdd, Int.add_zero] at r51 ⊢
                    refine e_ldcS 54 (i := 20) (by decide) rfl rfl dX12_keyAt_52 rfl ?_
                    refine e_iload_n (i := 2) 55 dX12_keyAt_54 rfl rfl rfl ?_
                    refine e_iload_n (i := 3) 56 dX12_keyAt_55 rfl rfl rfl ?_
                    refine e_iadd 57 dX12_keyAt_56 rfl ?_
                    refine e_callF (av := [jI _]) 60 (i := 20) (by decide) mt_yJ_charAt mv_yJ_charAt wd_1410 (by decide) dX12_keyAt_57 rfl rfl rfl (Nat.le_of_ble_eq_true rfl) (jroom (by decide)) rfl (c_charAt (i := 20) (k := 94) (z := 101) (by decide) (by decide) (by decide +kernel) ?_)
                    dsimp only [jpush]
                    (try simp (disch := omega) only [put_r6, put_w6, put_r7, put_w7, put_r9, put_w9, put_r10, put_w10, put_r11, put_w11, put_r12, put_w12, put_r13, put_w13, put_r14, put_w14, put_r15, put_w15, put_ra, put_r8, put_r0, put_rt, put_wa, u1, u2, hn8])
                    refine e_icmp_ne 63 69 dX12_keyAt_60 (by omega) (by decide) (by decide) rfl (fun b60 => ?_) (fun b60 => ?_)
                    · skip
                      refine e_ldcS 71 (i := 20) (by decide) rfl rfl dX12_keyAt_69 rfl ?_
                      refine e_iload_n (i := 2) 72 dX12_keyAt_71 rfl rfl rfl ?_
                      refine e_iload_n (i := 3) 73 dX12_keyAt_72 rfl rfl rfl ?_
                      refine e_iadd 74 dX12_keyAt_73 rfl ?_
                      refine e_callF (av := [jI _]) 77 (i := 20) (by decide) mt_yJ_charAt mv_yJ_charAt wd_1410 (by decide) dX12_keyAt_74 rfl rfl rfl (Nat.le_of_ble_eq_true rfl) (jroom (by decide)) rfl (c_charAt (i := 20) (k := 94) (z := 101) (by decide) (by decide) (by decide +kernel) ?_)
                      dsimp only [jpush]
                      (try simp (disch := omega) only [put_r6, put_w6, put_r7, put_w7, put_r9, put_w9, put_r10, put_w10, put_r11, put_w11, put_r12, put_w12, put_r13, put_w13, put_r14, put_w14, put_r15, put_w15, put_ra, put_r8, put_r0, put_rt, put_wa, u1, u2, hn8])
                      refine e_bipush 79 dX12_keyAt_77 (by decide) rfl ?_
                      refine e_icmp_ne 82 97 dX12_keyAt_79 (by decide) (by decide) (by decide) rfl (fun _ => ?_) (fun h => absurd h (by decide))
                      refine e_ls (ls2 := [(0, _), (1, _), (2, _)]) rfl ?_
                      refine sk_18 (kk_19 hT hp hb ?_)
                      rw [kx18, if_neg (fun q => by omega)] at h
                      exact h
                    · skip
                      refine e_iinc (lsn := [(3, _), (0, _), (1, _), (2, _)]) 66 dX12_keyAt_63 rfl (by decide) rfl rfl ?_
                      refine e_goto 15 dX12_keyAt_66 (by decide) ?_
                      refine e_ldcS 17 (i := 20) (by decide) rfl rfl dX12_keyAt_15 rfl ?_
                      refine e_iload_n (i := 2) 18 dX12_keyAt_17 rfl rfl rfl ?_
                      refine e_iload_n (i := 3) 19 dX12_keyAt_18 rfl rfl rfl ?_
                      refine e_iadd 20 dX12_keyAt_19 rfl ?_
                      refine e_callF (av := [jI _]) 23 (i := 20) (by decide) mt_yJ_charAt mv_yJ_charAt wd_1410 (by decide) dX12_keyAt_20 rfl rfl rfl (Nat.le_of_ble_eq_true rfl) (jroom (by decide)) rfl (c_charAt (i := 20) (k := 95) (z := 32) (by decide) (by decide) (by decide +kernel) ?_)
                      dsimp only [jpush]
                      (try simp (disch := omega) only [put_r6, put_w6, put_r7, put_w7, put_r9, put_w9, put_r10, put_w10, put_r11, put_w11, put_r12, put_w12, put_r13, put_w13, put_r14, put_w14, put_r15, put_w15, put_ra, put_r8, put_r0, put_rt, put_wa, u1, u2, hn8])
                      refine e_bipush 25 dX12_keyAt_23 (by decide) rfl ?_
                      refine e_icmp_eq 28 69 dX12_keyAt_25 (by decide) (by decide) (by decide) rfl (fun _ => ?_) (fun h => absurd h (by decide))
                      refine e_ldcS 71 (i := 20) (by decide) rfl rfl dX12_keyAt_69 rfl ?_
                      refine e_iload_n (i := 2) 72 dX12_keyAt_71 rfl rfl rfl ?_
                      refine e_iload_n (i := 3) 73 dX12_keyAt_72 rfl rfl rfl ?_
                      refine e_iadd 74 dX12_keyAt_73 rfl ?_
                      refine e_callF (av := [jI _]) 77 (i := 20) (by decide) mt_yJ_charAt mv_yJ_charAt wd_1410 (by decide) dX12_keyAt_74 rfl rfl rfl (Nat.le_of_ble_eq_true rfl) (jroom (by decide)) rfl (c_charAt (i := 20) (k := 95) (z := 32) (by decide) (by decide) (by decide +kernel) ?_)
                      dsimp only [jpush]
                      (try simp (disch := omega) only [put_r6, put_w6, put_r7, put_w7, put_r9, put_w9, put_r10, put_w10, put_r11, put_w11, put_r12, put_w12, put_r13, put_w13, put_r14, put_w14, put_r15, put_w15, put_ra, put_r8, put_r0, put_rt, put_wa, u1, u2, hn8])
                      refine e_bipush 79 dX12_keyAt_77 (by decide) rfl ?_
                      refine e_icmp_ne 82 97 dX12_keyAt_79 (by decide) (by decide) (by decide) rfl (fun h => absurd h (by decide)) (fun _ => ?_)
                      refine e_aload_n (i := 0) 83 dX12_keyAt_82 rfl rfl rfl ?_
                      refine e_geti (j := 6) 86 fl_12_97 dX12_keyAt_83 at_928 (by decide) rfl rfl (fun r83 => ?_)
                      simp (disch := omega) only [put_r6, put_w6, put_r7, put_w7, put_r9, put_w9, put_r10, put_w10, put_r11, put_w11, put_r12, put_w12, put_r13, put_w13, put_r14, put_w14, put_r15, put_w15, put_ra, put_r8, put_r0, put_rt, put_wa, u1, u2, hn8] at r83 ⊢
                      refine e_iload_n (i := 3) 87 dX12_keyAt_86 rfl rfl rfl ?_
                      refine e_iadd 88 dX12_keyAt_87 rfl ?_
                      refine e_aload_n (i := 0) 89 dX12_keyAt_88 rfl rfl rfl ?_
                      refine e_geti (j := 7) 92 fl_12_100 dX12_keyAt_89 at_928 (by decide) rfl rfl (fun r89 => ?_)
                      simp (disch := omega) only [put_r6, put_w6, put_r7, put_w7, put_r9, put_w9, put_r10, put_w10, put_r11, put_w11, put_r12, put_w12, put_r13, put_w13, put_r14, put_w14, put_r15, put_w15, put_ra, put_r8, put_r0, put_rt, put_wa, u1, u2, hn8] at r89 ⊢
                      refine e_icmp_ne 95 97 dX12_keyAt_92 (by omega) (by omega) (by decide) rfl (fun b92 => ?_) (fun b92 => ?_)
                      · skip
                        refine e_ls (ls2 := [(0, _), (1, _), (2, _)]) rfl ?_
                        refine sk_18 (kk_19 hT hp hb ?_)
                        rw [kx18, if_neg (fun q => by omega)] at h
                        exact h
                      · skip
                        refine e_iload_n (i := 1) 96 dX12_keyAt_95 rfl rfl rfl ?_
                        refine e_iret dX12_keyAt_96 ?_
                        rw [kx18, if_pos (by omega)] at h
                        exact h

theorem sk_17 {X : jX} {Y : jM} {Q : Int → jM → Prop} (h : jE X yX12_keyAt cX12_keyAt 4 (some .int) 5 Q Y 4 [(0, jR 928), (1, jI 18), (2, jI 90)] []) : jE X yX12_keyAt cX12_keyAt 4 (some .int) 5 Q Y 97 [(0, jR 928), (1, jI 17), (2, jI 84)] [] := by
  refine e_ldcS 99 (i := 20) (by decide) rfl rfl dX12_keyAt_97 rfl ?_
  refine e_iload_n (i := 2) 100 dX12_keyAt_99 rfl rfl rfl ?_
  refine e_callF (av := [jI _]) 103 (i := 20) (by decide) mt_yJ_charAt mv_yJ_charAt wd_1410 (by decide) dX12_keyAt_100 rfl rfl rfl (Nat.le_of_ble_eq_true rfl) (jroom (by decide)) rfl (c_charAt (i := 20) (k := 84) (z := 97) (by decide) (by decide) (by decide +kernel) ?_)
  dsimp only [jpush]
  refine e_bipush 105 dX12_keyAt_103 (by decide) rfl ?_
  refine e_icmp_eq 108 114 dX12_keyAt_105 (by decide) (by decide) (by decide) rfl (fun h => absurd h (by decide)) (fun _ => ?_)
  refine e_iinc (lsn := [(2, _), (0, _), (1, _)]) 111 dX12_keyAt_108 rfl (by decide) rfl rfl ?_
  refine e_goto 97 dX12_keyAt_111 (by decide) ?_
  refine e_ldcS 99 (i := 20) (by decide) rfl rfl dX12_keyAt_97 rfl ?_
  refine e_iload_n (i := 2) 100 dX12_keyAt_99 rfl rfl rfl ?_
  refine e_callF (av := [jI _]) 103 (i := 20) (by decide) mt_yJ_charAt mv_yJ_charAt wd_1410 (by decide) dX12_keyAt_100 rfl rfl rfl (Nat.le_of_ble_eq_true rfl) (jroom (by decide)) rfl (c_charAt (i := 20) (k := 85) (z := 98) (by decide) (by decide) (by decide +kernel) ?_)
  dsimp only [jpush]
  refine e_bipush 105 dX12_keyAt_103 (by decide) rfl ?_
  refine e_icmp_eq 108 114 dX12_keyAt_105 (by decide) (by decide) (by decide) rfl (fun h => absurd h (by decide)) (fun _ => ?_)
  refine e_iinc (lsn := [(2, _), (0, _), (1, _)]) 111 dX12_keyAt_108 rfl (by decide) rfl rfl ?_
  refine e_goto 97 dX12_keyAt_111 (by decide) ?_
  refine e_ldcS 99 (i := 20) (by decide) rfl rfl dX12_keyAt_97 rfl ?_
  refine e_iload_n (i := 2) 100 dX12_keyAt_99 rfl rfl rfl ?_
  refine e_callF (av := [jI _]) 103 (i := 20) (by decide) mt_yJ_charAt mv_yJ_charAt wd_1410 (by decide) dX12_keyAt_100 rfl rfl rfl (Nat.le_of_ble_eq_true rfl) (jroom (by decide)) rfl (c_charAt (i := 20) (k := 86) (z := 111) (by decide) (by decide) (by decide +kernel) ?_)
  dsimp only [jpush]
  refine e_bipush 105 dX12_keyAt_103 (by decide) rfl ?_
  refine e_icmp_eq 108 114 dX12_keyAt_105 (by decide) (by decide) (by decide) rfl (fun h => absurd h (by decide)) (fun _ => ?_)
  refine e_iinc (lsn := [(2, _), (0, _), (1, _)]) 111 dX12_keyAt_108 rfl (by decide) rfl rfl ?_
  refine e_goto 97 dX12_keyAt_111 (by decide) ?_
  refine e_ldcS 99 (i := 20) (by decide) rfl rfl dX12_keyAt_97 rfl ?_
  refine e_iload_n (i := 2) 100 dX12_keyAt_99 rfl rfl rfl ?_
  refine e_callF (av := [jI _]) 103 (i := 20) (by decide) mt_yJ_charAt mv_yJ_charAt wd_1410 (by decide) dX12_keyAt_100 rfl rfl rfl (Nat.le_of_ble_eq_true rfl) (jroom (by decide)) rfl (c_charAt (i := 20) (k := 87) (z := 118) (by decide) (by decide) (by decide +kernel) ?_)
  dsimp only [jpush]
  refine e_bipush 105 dX12_keyAt_103 (by decide) rfl ?_
  refine e_icmp_eq 108 114 dX12_keyAt_105 (by decide) (by decide) (by decide) rfl (fun h => absurd h (by decide)) (fun _ => ?_)
  refine e_iinc (lsn := [(2, _), (0, _), (1, _)]) 111 dX12_keyAt_108 rfl (by decide) rfl rfl ?_
  refine e_goto 97 dX12_keyAt_111 (by decide) ?_
  refine e_ldcS 99 (i := 20) (by decide) rfl rfl dX12_keyAt_97 rfl ?_
  refine e_iload_n (i := 2) 100 dX12_keyAt_99 rfl rfl rfl ?_
  refine e_callF (av := [jI _]) 103 (i := 20) (by decide) mt_yJ_charAt mv_yJ_charAt wd_1410 (by decide) dX12_keyAt_100 rfl rfl rfl (Nat.le_of_ble_eq_true rfl) (jroom (by decide)) rfl (c_charAt (i := 20) (k := 88) (z := 101) (by decide) (by decide) (by decide +kernel) ?_)
  dsimp only [jpush]
  refine e_bipush 105 dX12_keyAt_103 (by decide) rfl ?_
  refine e_icmp_eq 108 114 dX12_keyAt_105 (by decide) (by decide) (by decide) rfl (fun h => absurd h (by decide)) (fun _ => ?_)
  refine e_iinc (lsn := [(2, _), (0, _), (1, _)]) 111 dX12_keyAt_108 rfl (by decide) rfl rfl ?_
  refine e_goto 97 dX12_keyAt_111 (by decide) ?_
  refine e_ldcS 99 (i := 20) (by decide) rfl rfl dX12_keyAt_97 rfl ?_
  refine e_iload_n (i := 2) 100 dX12_keyAt_99 rfl rfl rfl ?_
  refine e_callF (av := [jI _]) 103 (i := 20) (by decide) mt_yJ_charAt mv_yJ_charAt wd_1410 (by decide) dX12_keyAt_100 rfl rfl rfl (Nat.le_of_ble_eq_true rfl) (jroom (by decide)) rfl (c_charAt (i := 20) (k := 89) (z := 32) (by decide) (by decide) (by decide +kernel) ?_)
  dsimp only [jpush]
  refine e_bipush 105 dX12_keyAt_103 (by decide) rfl ?_
  refine e_icmp_eq 108 114 dX12_keyAt_105 (by decide) (by decide) (by decide) rfl (fun _ => ?_) (fun h => absurd h (by decide))
  refine e_iinc (lsn := [(2, _), (0, _), (1, _)]) 117 dX12_keyAt_114 rfl (by decide) rfl rfl ?_
  refine e_iinc (lsn := [(1, _), (2, _), (0, _)]) 120 dX12_keyAt_117 rfl (by decide) rfl rfl ?_
  refine e_goto 4 dX12_keyAt_120 (by decide) ?_
  refine e_ls (ls2 := [(0, _), (1, _), (2, _)]) rfl ?_
  exact h

theorem kk_17 {X : jX} {M : jM} {n : Int} {Q : Int → jM → Prop} (hT : RT M n) {s : PS} (hp : 0 ≤ s.1) (hb : s.1 ≤ s.2.1 ∧ s.2.1 ≤ n) (h : Q (kx17 (M 931) s.1 s.2.1) (put M s)) : jE X yX12_keyAt cX12_keyAt 4 (some .int) 5 Q (put M s) 4 [(0, jR 928), (1, jI 17), (2, jI 84)] [] := by
  have hn8 := hT.1
  have hn := hT.2.1
  refine e_iload_n (i := 2) 5 dX12_keyAt_4 rfl rfl rfl ?_
  refine e_ldcS 7 (i := 20) (by decide) rfl rfl dX12_keyAt_5 rfl ?_
  refine e_callF (av := []) 10 (i := 20) (by decide) mt_yJ_len mv_yJ_len wd_1409 (by decide) dX12_keyAt_7 rfl rfl rfl (Nat.le_of_ble_eq_true rfl) (jroom (by decide)) rfl (c_strlen (i := 20) (z := 99) (by decide) (by decide) ?_)
  dsimp only [jpush]
  (try simp (disch := omega) only [put_r6, put_w6, put_r7, put_w7, put_r9, put_w9, put_r10, put_w10, put_r11, put_w11, put_r12, put_w12, put_r13, put_w13, put_r14, put_w14, put_r15, put_w15, put_ra, put_r8, put_r0, put_rt, put_wa, u1, u2, hn8])
  refine e_icmp_ge 13 123 dX12_keyAt_10 (by decide) (by decide) (by decide) rfl (fun h => absurd h (by decide)) (fun _ => ?_)
  refine e_iconst 14 dX12_keyAt_13 rfl ?_
  refine e_istore_n (i := 3) (lsn := [(3, _), (0, _), (1, _), (2, _)]) 15 dX12_keyAt_14 rfl (by decide) rfl rfl ?_
  refine e_ldcS 17 (i := 20) (by decide) rfl rfl dX12_keyAt_15 rfl ?_
  refine e_iload_n (i := 2) 18 dX12_keyAt_17 rfl rfl rfl ?_
  refine e_iload_n (i := 3) 19 dX12_keyAt_18 rfl rfl rfl ?_
  refine e_iadd 20 dX12_keyAt_19 rfl ?_
  refine e_callF (av := [jI _]) 23 (i := 20) (by decide) mt_yJ_charAt mv_yJ_charAt wd_1410 (by decide) dX12_keyAt_20 rfl rfl rfl (Nat.le_of_ble_eq_true rfl) (jroom (by decide)) rfl (c_charAt (i := 20) (k := 84) (z := 97) (by decide) (by decide) (by decide +kernel) ?_)
  dsimp only [jpush]
  (try simp (disch := omega) only [put_r6, put_w6, put_r7, put_w7, put_r9, put_w9, put_r10, put_w10, put_r11, put_w11, put_r12, put_w12, put_r13, put_w13, put_r14, put_w14, put_r15, put_w15, put_ra, put_r8, put_r0, put_rt, put_wa, u1, u2, hn8])
  refine e_bipush 25 dX12_keyAt_23 (by decide) rfl ?_
  refine e_icmp_eq 28 69 dX12_keyAt_25 (by decide) (by decide) (by decide) rfl (fun h => absurd h (by decide)) (fun _ => ?_)
  refine e_aload_n (i := 0) 29 dX12_keyAt_28 rfl rfl rfl ?_
  refine e_geti (j := 6) 32 fl_12_97 dX12_keyAt_29 at_928 (by decide) rfl rfl (fun r29 => ?_)
  simp (disch := omega) only [put_r6, put_w6, put_r7, put_w7, put_r9, put_w9, put_r10, put_w10, put_r11, put_w11, put_r12, put_w12, put_r13, put_w13, put_r14, put_w14, put_r15, put_w15, put_ra, put_r8, put_r0, put_rt, put_wa, u1, u2, hn8] at r29 ⊢
  refine e_iload_n (i := 3) 33 dX12_keyAt_32 rfl rfl rfl ?_
  refine e_iadd 34 dX12_keyAt_33 rfl ?_
  refine e_aload_n (i := 0) 35 dX12_keyAt_34 rfl rfl rfl ?_
  refine e_geti (j := 7) 38 fl_12_100 dX12_keyAt_35 at_928 (by decide) rfl rfl (fun r35 => ?_)
  simp (disch := omega) only [put_r6, put_w6, put_r7, put_w7, put_r9, put_w9, put_r10, put_w10, put_r11, put_w11, put_r12, put_w12, put_r13, put_w13, put_r14, put_w14, put_r15, put_w15, put_ra, put_r8, put_r0, put_rt, put_wa, u1, u2, hn8] at r35 ⊢
  refine e_icmp_ge 41 69 dX12_keyAt_38 (by omega) (by omega) (by decide) rfl (fun b38 => ?_) (fun b38 => ?_)
  · skip
    refine e_ldcS 71 (i := 20) (by decide) rfl rfl dX12_keyAt_69 rfl ?_
    refine e_iload_n (i := 2) 72 dX12_keyAt_71 rfl rfl rfl ?_
    refine e_iload_n (i := 3) 73 dX12_keyAt_72 rfl rfl rfl ?_
    refine e_iadd 74 dX12_keyAt_73 rfl ?_
    refine e_callF (av := [jI _]) 77 (i := 20) (by decide) mt_yJ_charAt mv_yJ_charAt wd_1410 (by decide) dX12_keyAt_74 rfl rfl rfl (Nat.le_of_ble_eq_true rfl) (jroom (by decide)) rfl (c_charAt (i := 20) (k := 84) (z := 97) (by decide) (by decide) (by decide +kernel) ?_)
    dsimp only [jpush]
    (try simp (disch := omega) only [put_r6, put_w6, put_r7, put_w7, put_r9, put_w9, put_r10, put_w10, put_r11, put_w11, put_r12, put_w12, put_r13, put_w13, put_r14, put_w14, put_r15, put_w15, put_ra, put_r8, put_r0, put_rt, put_wa, u1, u2, hn8])
    refine e_bipush 79 dX12_keyAt_77 (by decide) rfl ?_
    refine e_icmp_ne 82 97 dX12_keyAt_79 (by decide) (by decide) (by decide) rfl (fun _ => ?_) (fun h => absurd h (by decide))
    refine e_ls (ls2 := [(0, _), (1, _), (2, _)]) rfl ?_
    refine sk_17 (kk_18 hT hp hb ?_)
    rw [kx17, if_neg (fun q => by omega)] at h
    exact h
  · skip
    refine e_aload_n (i := 0) 42 dX12_keyAt_41 rfl rfl rfl ?_
    refine e_getr (j := 3) 45 fl_12_21 dX12_keyAt_42 at_928 rfl rfl tp_928_3 rfl ?_
    refine e_aload_n (i := 0) 46 dX12_keyAt_45 rfl rfl rfl ?_
    refine e_geti (j := 6) 49 fl_12_97 dX12_keyAt_46 at_928 (by decide) rfl rfl (fun r46 => ?_)
    simp (disch := omega) only [put_r6, put_w6, put_r7, put_w7, put_r9, put_w9, put_r10, put_w10, put_r11, put_w11, put_r12, put_w12, put_r13, put_w13, put_r14, put_w14, put_r15, put_w15, put_ra, put_r8, put_r0, put_rt, put_wa, u1, u2, hn8] at r46 ⊢
    refine e_iload_n (i := 3) 50 dX12_keyAt_49 rfl rfl rfl ?_
    refine e_iadd 51 dX12_keyAt_50 rfl ?_
    refine e_iald 52 dX12_keyAt_51 ar_931 (by omega) (by omega) rfl (fun r51 => ?_)
    simp (disch := omega) only [put_r6, put_w6, put_r7, put_w7, put_r9, put_w9, put_r10, put_w10, put_r11, put_w11, put_r12, put_w12, put_r13, put_w13, put_r14, put_w14, put_r15, put_w15, put_ra, put_r8, put_r0, put_rt, put_wa, u1, u2, hn8, Int.reduceAdd, Int.add_zero] at r51 ⊢
    refine e_ldcS 54 (i := 20) (by decide) rfl rfl dX12_keyAt_52 rfl ?_
    refine e_iload_n (i := 2) 55 dX12_keyAt_54 rfl rfl rfl ?_
    refine e_iload_n (i := 3) 56 dX12_keyAt_55 rfl rfl rfl ?_
    refine e_iadd 57 dX12_keyAt_56 rfl ?_
    refine e_callF (av := [jI _]) 60 (i := 20) (by decide) mt_yJ_charAt mv_yJ_charAt wd_1410 (by decide) dX12_keyAt_57 rfl rfl rfl (Nat.le_of_ble_eq_true rfl) (jroom (by decide)) rfl (c_charAt (i := 20) (k := 84) (z := 97) (by decide) (by decide) (by decide +kernel) ?_)
    dsimp only [jpush]
    (try simp (disch := omega) only [put_r6, put_w6, put_r7, put_w7, put_r9, put_w9, put_r10, put_w10, put_r11, put_w11, put_r12, put_w12, put_r13, put_w13, put_r14, put_w14, put_r15, put_w15, put_ra, put_r8, put_r0, put_rt, put_wa, u1, u2, hn8])
    refine e_icmp_ne 63 69 dX12_keyAt_60 (by omega) (by decide) (by decide) rfl (fun b60 => ?_) (fun b60 => ?_)
    · skip
      refine e_ldcS 71 (i := 20) (by decide) rfl rfl dX12_keyAt_69 rfl ?_
      refine e_iload_n (i := 2) 72 dX12_keyAt_71 rfl rfl rfl ?_
      refine e_iload_n (i := 3) 73 dX12_keyAt_72 rfl rfl rfl ?_
      refine e_iadd 74 dX12_keyAt_73 rfl ?_
      refine e_callF (av := [jI _]) 77 (i := 20) (by decide) mt_yJ_charAt mv_yJ_charAt wd_1410 (by decide) dX12_keyAt_74 rfl rfl rfl (Nat.le_of_ble_eq_true rfl) (jroom (by decide)) rfl (c_charAt (i := 20) (k := 84) (z := 97) (by decide) (by decide) (by decide +kernel) ?_)
      dsimp only [jpush]
      (try simp (disch := omega) only [put_r6, put_w6, put_r7, put_w7, put_r9, put_w9, put_r10, put_w10, put_r11, put_w11, put_r12, put_w12, put_r13, put_w13, put_r14, put_w14, put_r15, put_w15, put_ra, put_r8, put_r0, put_rt, put_wa, u1, u2, hn8])
      refine e_bipush 79 dX12_keyAt_77 (by decide) rfl ?_
      refine e_icmp_ne 82 97 dX12_keyAt_79 (by decide) (by decide) (by decide) rfl (fun _ => ?_) (fun h => absurd h (by decide))
      refine e_ls (ls2 := [(0, _), (1, _), (2, _)]) rfl ?_
      refine sk_17 (kk_18 hT hp hb ?_)
      rw [kx17, if_neg (fun q => by omega)] at h
      exact h
    · skip
      refine e_iinc (lsn := [(3, _), (0, _), (1, _), (2, _)]) 66 dX12_keyAt_63 rfl (by decide) rfl rfl ?_
      refine e_goto 15 dX12_keyAt_66 (by decide) ?_
      refine e_ldcS 17 (i := 20) (by decide) rfl rfl dX12_keyAt_15 rfl ?_
      refine e_iload_n (i := 2) 18 dX12_keyAt_17 rfl rfl rfl ?_
      refine e_iload_n (i := 3) 19 dX12_keyAt_18 rfl rfl rfl ?_
      refine e_iadd 20 dX12_keyAt_19 rfl ?_
      refine e_callF (av := [jI _]) 23 (i := 20) (by decide) mt_yJ_charAt mv_yJ_charAt wd_1410 (by decide) dX12_keyAt_20 rfl rfl rfl (Nat.le_of_ble_eq_true rfl) (jroom (by decide)) rfl (c_charAt (i := 20) (k := 85) (z := 98) (by decide) (by decide) (by decide +kernel) ?_)
      dsimp only [jpush]
      (try simp (disch := omega) only [put_r6, put_w6, put_r7, put_w7, put_r9, put_w9, put_r10, put_w10, put_r11, put_w11, put_r12, put_w12, put_r13, put_w13, put_r14, put_w14, put_r15, put_w15, put_ra, put_r8, put_r0, put_rt, put_wa, u1, u2, hn8])
      refine e_bipush 25 dX12_keyAt_23 (by decide) rfl ?_
      refine e_icmp_eq 28 69 dX12_keyAt_25 (by decide) (by decide) (by decide) rfl (fun h => absurd h (by decide)) (fun _ => ?_)
      refine e_aload_n (i := 0) 29 dX12_keyAt_28 rfl rfl rfl ?_
      refine e_geti (j := 6) 32 fl_12_97 dX12_keyAt_29 at_928 (by decide) rfl rfl (fun r29 => ?_)
      simp (disch := omega) only [put_r6, put_w6, put_r7, put_w7, put_r9, put_w9, put_r10, put_w10, put_r11, put_w11, put_r12, put_w12, put_r13, put_w13, put_r14, put_w14, put_r15, put_w15, put_ra, put_r8, put_r0, put_rt, put_wa, u1, u2, hn8] at r29 ⊢
      refine e_iload_n (i := 3) 33 dX12_keyAt_32 rfl rfl rfl ?_
      refine e_iadd 34 dX12_keyAt_33 rfl ?_
      refine e_aload_n (i := 0) 35 dX12_keyAt_34 rfl rfl rfl ?_
      refine e_geti (j := 7) 38 fl_12_100 dX12_keyAt_35 at_928 (by decide) rfl rfl (fun r35 => ?_)
      simp (disch := omega) only [put_r6, put_w6, put_r7, put_w7, put_r9, put_w9, put_r10, put_w10, put_r11, put_w11, put_r12, put_w12, put_r13, put_w13, put_r14, put_w14, put_r15, put_w15, put_ra, put_r8, put_r0, put_rt, put_wa, u1, u2, hn8] at r35 ⊢
      refine e_icmp_ge 41 69 dX12_keyAt_38 (by omega) (by omega) (by decide) rfl (fun b38 => ?_) (fun b38 => ?_)
      · skip
        refine e_ldcS 71 (i := 20) (by decide) rfl rfl dX12_keyAt_69 rfl ?_
        refine e_iload_n (i := 2) 72 dX12_keyAt_71 rfl rfl rfl ?_
        refine e_iload_n (i := 3) 73 dX12_keyAt_72 rfl rfl rfl ?_
        refine e_iadd 74 dX12_keyAt_73 rfl ?_
        refine e_callF (av := [jI _]) 77 (i := 20) (by decide) mt_yJ_charAt mv_yJ_charAt wd_1410 (by decide) dX12_keyAt_74 rfl rfl rfl (Nat.le_of_ble_eq_true rfl) (jroom (by decide)) rfl (c_charAt (i := 20) (k := 85) (z := 98) (by decide) (by decide) (by decide +kernel) ?_)
        dsimp only [jpush]
        (try simp (disch := omega) only [put_r6, put_w6, put_r7, put_w7, put_r9, put_w9, put_r10, put_w10, put_r11, put_w11, put_r12, put_w12, put_r13, put_w13, put_r14, put_w14, put_r15, put_w15, put_ra, put_r8, put_r0, put_rt, put_wa, u1, u2, hn8])
        refine e_bipush 79 dX12_keyAt_77 (by decide) rfl ?_
        refine e_icmp_ne 82 97 dX12_keyAt_79 (by decide) (by decide) (by decide) rfl (fun _ => ?_) (fun h => absurd h (by decide))
        refine e_ls (ls2 := [(0, _), (1, _), (2, _)]) rfl ?_
        refine sk_17 (kk_18 hT hp hb ?_)
        rw [kx17, if_neg (fun q => by omega)] at h
        exact h
      · skip
        refine e_aload_n (i := 0) 42 dX12_keyAt_41 rfl rfl rfl ?_
        refine e_getr (j := 3) 45 fl_12_21 dX12_keyAt_42 at_928 rfl rfl tp_928_3 rfl ?_
        refine e_aload_n (i := 0) 46 dX12_keyAt_45 rfl rfl rfl ?_
        refine e_geti (j := 6) 49 fl_12_97 dX12_keyAt_46 at_928 (by decide) rfl rfl (fun r46 => ?_)
        simp (disch := omega) only [put_r6, put_w6, put_r7, put_w7, put_r9, put_w9, put_r10, put_w10, put_r11, put_w11, put_r12, put_w12, put_r13, put_w13, put_r14, put_w14, put_r15, put_w15, put_ra, put_r8, put_r0, put_rt, put_wa, u1, u2, hn8] at r46 ⊢
        refine e_iload_n (i := 3) 50 dX12_keyAt_49 rfl rfl rfl ?_
        refine e_iadd 51 dX12_keyAt_50 rfl ?_
        refine e_iald 52 dX12_keyAt_51 ar_931 (by omega) (by omega) rfl (fun r51 => ?_)
        simp (disch := omega) only [put_r6, put_w6, put_r7, put_w7, put_r9, put_w9, put_r10, put_w10, put_r11, put_w11, put_r12, put_w12, put_r13, put_w13, put_r14, put_w14, put_r15, put_w15, put_ra, put_r8, put_r0, put_rt, put_wa, u1, u2, hn8, Int.reduceAdd, Int.add_zero] at r51 ⊢
        refine e_ldcS 54 (i := 20) (by decide) rfl rfl dX12_keyAt_52 rfl ?_
        refine e_iload_n (i := 2) 55 dX12_keyAt_54 rfl rfl rfl ?_
        refine e_iload_n (i := 3) 56 dX12_keyAt_55 rfl rfl rfl ?_
        refine e_iadd 57 dX12_keyAt_56 rfl ?_
        refine e_callF (av := [jI _]) 60 (i := 20) (by decide) mt_yJ_charAt mv_yJ_charAt wd_1410 (by decide) dX12_keyAt_57 rfl rfl rfl (Nat.le_of_ble_eq_true rfl) (jroom (by decide)) rfl (c_charAt (i := 20) (k := 85) (z := 98) (by decide) (by decide) (by decide +kernel) ?_)
        dsimp only [jpush]
        (try simp (disch := omega) only [put_r6, put_w6, put_r7, put_w7, put_r9, put_w9, put_r10, put_w10, put_r11, put_w11, put_r12, put_w12, put_r13, put_w13, put_r14, put_w14, put_r15, put_w15, put_ra, put_r8, put_r0, put_rt, put_wa, u1, u2, hn8])
        refine e_icmp_ne 63 69 dX12_keyAt_60 (by omega) (by decide) (by decide) rfl (fun b60 => ?_) (fun b60 => ?_)
        · skip
          refine e_ldcS 71 (i := 20) (by decide) rfl rfl dX12_keyAt_69 rfl ?_
          refine e_iload_n (i := 2) 72 dX12_keyAt_71 rfl rfl rfl ?_
          refine e_iload_n (i := 3) 73 dX12_keyAt_72 rfl rfl rfl ?_
          refine e_iadd 74 dX12_keyAt_73 rfl ?_
          refine e_callF (av := [jI _]) 77 (i := 20) (by decide) mt_yJ_charAt mv_yJ_charAt wd_1410 (by decide) dX12_keyAt_74 rfl rfl rfl (Nat.le_of_ble_eq_true rfl) (jroom (by decide)) rfl (c_charAt (i := 20) (k := 85) (z := 98) (by decide) (by decide) (by decide +kernel) ?_)
          dsimp only [jpush]
          (try simp (disch := omega) only [put_r6, put_w6, put_r7, put_w7, put_r9, put_w9, put_r10, put_w10, put_r11, put_w11, put_r12, put_w12, put_r13, put_w13, put_r14, put_w14, put_r15, put_w15, put_ra, put_r8, put_r0, put_rt, put_wa, u1, u2, hn8])
          refine e_bipush 79 dX12_keyAt_77 (by decide) rfl ?_
          refine e_icmp_ne 82 97 dX12_keyAt_79 (by decide) (by decide) (by decide) rfl (fun _ => ?_) (fun h => absurd h (by decide))
          refine e_ls (ls2 := [(0, _), (1, _), (2, _)]) rfl ?_
          refine sk_17 (kk_18 hT hp hb ?_)
          rw [kx17, if_neg (fun q => by omega)] at h
          exact h
        · skip
          refine e_iinc (lsn := [(3, _), (0, _), (1, _), (2, _)]) 66 dX12_keyAt_63 rfl (by decide) rfl rfl ?_
          refine e_goto 15 dX12_keyAt_66 (by decide) ?_
          refine e_ldcS 17 (i := 20) (by decide) rfl rfl dX12_keyAt_15 rfl ?_
          refine e_iload_n (i := 2) 18 dX12_keyAt_17 rfl rfl rfl ?_
          refine e_iload_n (i := 3) 19 dX12_keyAt_18 rfl rfl rfl ?_
          refine e_iadd 20 dX12_keyAt_19 rfl ?_
          refine e_callF (av := [jI _]) 23 (i := 20) (by decide) mt_yJ_charAt mv_yJ_charAt wd_1410 (by decide) dX12_keyAt_20 rfl rfl rfl (Nat.le_of_ble_eq_true rfl) (jroom (by decide)) rfl (c_charAt (i := 20) (k := 86) (z := 111) (by decide) (by decide) (by decide +kernel) ?_)
          dsimp only [jpush]
          (try simp (disch := omega) only [put_r6, put_w6, put_r7, put_w7, put_r9, put_w9, put_r10, put_w10, put_r11, put_w11, put_r12, put_w12, put_r13, put_w13, put_r14, put_w14, put_r15, put_w15, put_ra, put_r8, put_r0, put_rt, put_wa, u1, u2, hn8])
          refine e_bipush 25 dX12_keyAt_23 (by decide) rfl ?_
          refine e_icmp_eq 28 69 dX12_keyAt_25 (by decide) (by decide) (by decide) rfl (fun h => absurd h (by decide)) (fun _ => ?_)
          refine e_aload_n (i := 0) 29 dX12_keyAt_28 rfl rfl rfl ?_
          refine e_geti (j := 6) 32 fl_12_97 dX12_keyAt_29 at_928 (by decide) rfl rfl (fun r29 => ?_)
          simp (disch := omega) only [put_r6, put_w6, put_r7, put_w7, put_r9, put_w9, put_r10, put_w10, put_r11, put_w11, put_r12, put_w12, put_r13, put_w13, put_r14, put_w14, put_r15, put_w15, put_ra, put_r8, put_r0, put_rt, put_wa, u1, u2, hn8] at r29 ⊢
          refine e_iload_n (i := 3) 33 dX12_keyAt_32 rfl rfl rfl ?_
          refine e_iadd 34 dX12_keyAt_33 rfl ?_
          refine e_aload_n (i := 0) 35 dX12_keyAt_34 rfl rfl rfl ?_
          refine e_geti (j := 7) 38 fl_12_100 dX12_keyAt_35 at_928 (by decide) rfl rfl (fun r35 => ?_)
          simp (disch := omega) only [put_r6, put_w6, put_r7, put_w7, put_r9, put_w9, put_r10, put_w10, put_r11, put_w11, put_r12, put_w12, put_r13, put_w13, put_r14, put_w14, put_r15, put_w15, put_ra, put_r8, put_r0, put_rt, put_wa, u1, u2, hn8] at r35 ⊢
          refine e_icmp_ge 41 69 dX12_keyAt_38 (by omega) (by omega) (by decide) rfl (fun b38 => ?_) (fun b38 => ?_)
          · skip
            refine e_ldcS 71 (i := 20) (by decide) rfl rfl dX12_keyAt_69 rfl ?_
            refine e_iload_n (i := 2) 72 dX12_keyAt_71 rfl rfl rfl ?_
            refine e_iload_n (i := 3) 73 dX12_keyAt_72 rfl rfl rfl ?_
            refine e_iadd 74 dX12_keyAt_73 rfl ?_
            refine e_callF (av := [jI _]) 77 (i := 20) (by decide) mt_yJ_charAt mv_yJ_charAt wd_1410 (by decide) dX12_keyAt_74 rfl rfl rfl (Nat.le_of_ble_eq_true rfl) (jroom (by decide)) rfl (c_charAt (i := 20) (k := 86) (z := 111) (by decide) (by decide) (by decide +kernel) ?_)
            dsimp only [jpush]
            (try simp (disch := omega) only [put_r6, put_w6, put_r7, put_w7, put_r9, put_w9, put_r10, put_w10, put_r11, put_w11, put_r12, put_w12, put_r13, put_w13, put_r14, put_w14, put_r15, put_w15, put_ra, put_r8, put_r0, put_rt, put_wa, u1, u2, hn8])
            refine e_bipush 79 dX12_keyAt_77 (by decide) rfl ?_
            refine e_icmp_ne 82 97 dX12_keyAt_79 (by decide) (by decide) (by decide) rfl (fun _ => ?_) (fun h => absurd h (by decide))
            refine e_ls (ls2 := [(0, _), (1, _), (2, _)]) rfl ?_
            refine sk_17 (kk_18 hT hp hb ?_)
            rw [kx17, if_neg (fun q => by omega)] at h
            exact h
          · skip
            refine e_aload_n (i := 0) 42 dX12_keyAt_41 rfl rfl rfl ?_
            refine e_getr (j := 3) 45 fl_12_21 dX12_keyAt_42 at_928 rfl rfl tp_928_3 rfl ?_
            refine e_aload_n (i := 0) 46 dX12_keyAt_45 rfl rfl rfl ?_
            refine e_geti (j := 6) 49 fl_12_97 dX12_keyAt_46 at_928 (by decide) rfl rfl (fun r46 => ?_)
            simp (disch := omega) only [put_r6, put_w6, put_r7, put_w7, put_r9, put_w9, put_r10, put_w10, put_r11, put_w11, put_r12, put_w12, put_r13, put_w13, put_r14, put_w14, put_r15, put_w15, put_ra, put_r8, put_r0, put_rt, put_wa, u1, u2, hn8] at r46 ⊢
            refine e_iload_n (i := 3) 50 dX12_keyAt_49 rfl rfl rfl ?_
            refine e_iadd 51 dX12_keyAt_50 rfl ?_
            refine e_iald 52 dX12_keyAt_51 ar_931 (by omega) (by omega) rfl (fun r51 => ?_)
            simp (disch := omega) only [put_r6, put_w6, put_r7, put_w7, put_r9, put_w9, put_r10, put_w10, put_r11, put_w11, put_r12, put_w12, put_r13, put_w13, put_r14, put_w14, put_r15, put_w15, put_ra, put_r8, put_r0, put_rt, put_wa, u1, u2, hn8, Int.reduceAdd, Int.add_zero] at r51 ⊢
            refine e_ldcS 54 (i := 20) (by decide) rfl rfl dX12_keyAt_52 rfl ?_
            refine e_iload_n (i := 2) 55 dX12_keyAt_54 rfl rfl rfl ?_
            refine e_iload_n (i := 3) 56 dX12_keyAt_55 rfl rfl rfl ?_
            refine e_iadd 57 dX12_keyAt_56 rfl ?_
            refine e_callF (av := [jI _]) 60 (i := 20) (by decide) mt_yJ_charAt mv_yJ_charAt wd_1410 (by decide) dX12_keyAt_57 rfl rfl rfl (Nat.le_of_ble_eq_true rfl) (jroom (by decide)) rfl (c_charAt (i := 20) (k := 86) (z := 111) (by decide) (by decide) (by decide +kernel) ?_)
            dsimp only [jpush]
            (try simp (disch := omega) only [put_r6, put_w6, put_r7, put_w7, put_r9, put_w9, put_r10, put_w10, put_r11, put_w11, put_r12, put_w12, put_r13, put_w13, put_r14, put_w14, put_r15, put_w15, put_ra, put_r8, put_r0, put_rt, put_wa, u1, u2, hn8])
            refine e_icmp_ne 63 69 dX12_keyAt_60 (by omega) (by decide) (by decide) rfl (fun b60 => ?_) (fun b60 => ?_)
            · skip
              refine e_ldcS 71 (i := 20) (by decide) rfl rfl dX12_keyAt_69 rfl ?_
              refine e_iload_n (i := 2) 72 dX12_keyAt_71 rfl rfl rfl ?_
              refine e_iload_n (i := 3) 73 dX12_keyAt_72 rfl rfl rfl ?_
              refine e_iadd 74 dX12_keyAt_73 rfl ?_
              refine e_callF (av := [jI _]) 77 (i := 20) (by decide) mt_yJ_charAt mv_yJ_charAt wd_1410 (by decide) dX12_keyAt_74 rfl rfl rfl (Nat.le_of_ble_eq_true rfl) (jroom (by decide)) rfl (c_charAt (i := 20) (k := 86) (z := 111) (by decide) (by decide) (by decide +kernel) ?_)
              dsimp only [jpush]
              (try simp (disch := omega) only [put_r6, put_w6, put_r7, put_w7, put_r9, put_w9, put_r10, put_w10, put_r11, put_w11, put_r12, put_w12, put_r13, put_w13, put_r14, put_w14, put_r15, put_w15, put_ra, put_r8, put_r0, put_rt, put_wa, u1, u2, hn8])
              refine e_bipush 79 dX12_keyAt_77 (by decide) rfl ?_
              refine e_icmp_ne 82 97 dX12_keyAt_79 (by decide) (by decide) (by decide) rfl (fun _ => ?_) (fun h => absurd h (by decide))
              refine e_ls (ls2 := [(0, _), (1, _), (2, _)]) rfl ?_
              refine sk_17 (kk_18 hT hp hb ?_)
              rw [kx17, if_neg (fun q => by omega)] at h
              exact h
            · skip
              refine e_iinc (lsn := [(3, _), (0, _), (1, _), (2, _)]) 66 dX12_keyAt_63 rfl (by decide) rfl rfl ?_
              refine e_goto 15 dX12_keyAt_66 (by decide) ?_
              refine e_ldcS 17 (i := 20) (by decide) rfl rfl dX12_keyAt_15 rfl ?_
              refine e_iload_n (i := 2) 18 dX12_keyAt_17 rfl rfl rfl ?_
              refine e_iload_n (i := 3) 19 dX12_keyAt_18 rfl rfl rfl ?_
              refine e_iadd 20 dX12_keyAt_19 rfl ?_
              refine e_callF (av := [jI _]) 23 (i := 20) (by decide) mt_yJ_charAt mv_yJ_charAt wd_1410 (by decide) dX12_keyAt_20 rfl rfl rfl (Nat.le_of_ble_eq_true rfl) (jroom (by decide)) rfl (c_charAt (i := 20) (k := 87) (z := 118) (by decide) (by decide) (by decide +kernel) ?_)
              dsimp only [jpush]
              (try simp (disch := omega) only [put_r6, put_w6, put_r7, put_w7, put_r9, put_w9, put_r10, put_w10, put_r11, put_w11, put_r12, put_w12, put_r13, put_w13, put_r14, put_w14, put_r15, put_w15, put_ra, put_r8, put_r0, put_rt, put_wa, u1, u2, hn8])
              refine e_bipush 25 dX12_keyAt_23 (by decide) rfl ?_
              refine e_icmp_eq 28 69 dX12_keyAt_25 (by decide) (by decide) (by decide) rfl (fun h => absurd h (by decide)) (fun _ => ?_)
              refine e_aload_n (i := 0) 29 dX12_keyAt_28 rfl rfl rfl ?_
              refine e_geti (j := 6) 32 fl_12_97 dX12_keyAt_29 at_928 (by decide) rfl rfl (fun r29 => ?_)
              simp (disch := omega) only [put_r6, put_w6, put_r7, put_w7, put_r9, put_w9, put_r10, put_w10, put_r11, put_w11, put_r12, put_w12, put_r13, put_w13, put_r14, put_w14, put_r15, put_w15, put_ra, put_r8, put_r0, put_rt, put_wa, u1, u2, hn8] at r29 ⊢
              refine e_iload_n (i := 3) 33 dX12_keyAt_32 rfl rfl rfl ?_
              refine e_iadd 34 dX12_keyAt_33 rfl ?_
              refine e_aload_n (i := 0) 35 dX12_keyAt_34 rfl rfl rfl ?_
              refine e_geti (j := 7) 38 fl_12_100 dX12_keyAt_35 at_928 (by decide) rfl rfl (fun r35 => ?_)
              simp (disch := omega) only [put_r6, put_w6, put_r7, put_w7, put_r9, put_w9, put_r10, put_w10, put_r11, put_w11, put_r12, put_w12, put_r13, put_w13, put_r14, put_w14, put_r15, put_w15, put_ra, put_r8, put_r0, put_rt, put_wa, u1, u2, hn8] at r35 ⊢
              refine e_icmp_ge 41 69 dX12_keyAt_38 (by omega) (by omega) (by decide) rfl (fun b38 => ?_) (fun b38 => ?_)
              · skip
                refine e_ldcS 71 (i := 20) (by decide) rfl rfl dX12_keyAt_69 rfl ?_
                refine e_iload_n (i := 2) 72 dX12_keyAt_71 rfl rfl rfl ?_
                refine e_iload_n (i := 3) 73 dX12_keyAt_72 rfl rfl rfl ?_
                refine e_iadd 74 dX12_keyAt_73 rfl ?_
                refine e_callF (av := [jI _]) 77 (i := 20) (by decide) mt_yJ_charAt mv_yJ_charAt wd_1410 (by decide) dX12_keyAt_74 rfl rfl rfl (Nat.le_of_ble_eq_true rfl) (jroom (by decide)) rfl (c_charAt (i := 20) (k := 87) (z := 118) (by decide) (by decide) (by decide +kernel) ?_)
                dsimp only [jpush]
                (try simp (disch := omega) only [put_r6, put_w6, put_r7, put_w7, put_r9, put_w9, put_r10, put_w10, put_r11, put_w11, put_r12, put_w12, put_r13, put_w13, put_r14, put_w14, put_r15, put_w15, put_ra, put_r8, put_r0, put_rt, put_wa, u1, u2, hn8])
                refine e_bipush 79 dX12_keyAt_77 (by decide) rfl ?_
                refine e_icmp_ne 82 97 dX12_keyAt_79 (by decide) (by decide) (by decide) rfl (fun _ => ?_) (fun h => absurd h (by decide))
                refine e_ls (ls2 := [(0, _), (1, _), (2, _)]) rfl ?_
                refine sk_17 (kk_18 hT hp hb ?_)
                rw [kx17, if_neg (fun q => by omega)] at h
                exact h
              · skip
                refine e_aload_n (i := 0) 42 dX12_keyAt_41 rfl rfl rfl ?_
                refine e_getr (j := 3) 45 fl_12_21 dX12_keyAt_42 at_928 rfl rfl tp_928_3 rfl ?_
                refine e_aload_n (i := 0) 46 dX12_keyAt_45 rfl rfl rfl ?_
                refine e_geti (j := 6) 49 fl_12_97 dX12_keyAt_46 at_928 (by decide) rfl rfl (fun r46 => ?_)
                simp (disch := omega) only [put_r6, put_w6, put_r7, put_w7, put_r9, put_w9, put_r10, put_w10, put_r11, put_w11, put_r12, put_w12, put_r13, put_w13, put_r14, put_w14, put_r15, put_w15, put_ra, put_r8, put_r0, put_rt, put_wa, u1, u2, hn8] at r46 ⊢
                refine e_iload_n (i := 3) 50 dX12_keyAt_49 rfl rfl rfl ?_
                refine e_iadd 51 dX12_keyAt_50 rfl ?_
                refine e_iald 52 dX12_keyAt_51 ar_931 (by omega) (by omega) rfl (fun r51 => ?_)
                simp (disch := omega) only [put_r6, put_w6, put_r7, put_w7, put_r9, put_w9, put_r10, put_w10, put_r11, put_w11, put_r12, put_w12, put_r13, put_w13, put_r14, put_w14, put_r15, put_w15, put_ra, put_r8, put_r0, put_rt, put_wa, u1, u2, hn8, Int.reduceAdd, Int.add_zero] at r51 ⊢
                refine e_ldcS 54 (i := 20) (by decide) rfl rfl dX12_keyAt_52 rfl ?_
                refine e_iload_n (i := 2) 55 dX12_keyAt_54 rfl rfl rfl ?_
                refine e_iload_n (i := 3) 56 dX12_keyAt_55 rfl rfl rfl ?_
                refine e_iadd 57 dX12_keyAt_56 rfl ?_
                refine e_callF (av := [jI _]) 60 (i := 20) (by decide) mt_yJ_charAt mv_yJ_charAt wd_1410 (by decide) dX12_keyAt_57 rfl rfl rfl (Nat.le_of_ble_eq_true rfl) (jroom (by decide)) rfl (c_charAt (i := 20) (k := 87) (z := 118) (by decide) (by decide) (by decide +kernel) ?_)
                dsimp only [jpush]
                (try simp (disch := omega) only [put_r6, put_w6, put_r7, put_w7, put_r9, put_w9, put_r10, put_w10, put_r11, put_w11, put_r12, put_w12, put_r13, put_w13, put_r14, put_w14, put_r15, put_w15, put_ra, put_r8, put_r0, put_rt, put_wa, u1, u2, hn8])
                refine e_icmp_ne 63 69 dX12_keyAt_60 (by omega) (by decide) (by decide) rfl (fun b60 => ?_) (fun b60 => ?_)
                · skip
                  refine e_ldcS 71 (i := 20) (by decide) rfl rfl dX12_keyAt_69 rfl ?_
                  refine e_iload_n (i := 2) 72 dX12_keyAt_71 rfl rfl rfl ?_
                  refine e_iload_n (i := 3) 73 dX12_keyAt_72 rfl rfl rfl ?_
                  refine e_iadd 74 dX12_keyAt_73 rfl ?_
                  refine e_callF (av := [jI _]) 77 (i := 20) (by decide) mt_yJ_charAt mv_yJ_charAt wd_1410 (by decide) dX12_keyAt_74 rfl rfl rfl (Nat.le_of_ble_eq_true rfl) (jroom (by decide)) rfl (c_charAt (i := 20) (k := 87) (z := 118) (by decide) (by decide) (by decide +kernel) ?_)
                  dsimp only [jpush]
                  (try simp (disch := omega) only [put_r6, put_w6, put_r7, put_w7, put_r9, put_w9, put_r10, put_w10, put_r11, put_w11, put_r12, put_w12, put_r13, put_w13, put_r14, put_w14, put_r15, put_w15, put_ra, put_r8, put_r0, put_rt, put_wa, u1, u2, hn8])
                  refine e_bipush 79 dX12_keyAt_77 (by decide) rfl ?_
                  refine e_icmp_ne 82 97 dX12_keyAt_79 (by decide) (by decide) (by decide) rfl (fun _ => ?_) (fun h => absurd h (by decide))
                  refine e_ls (ls2 := [(0, _), (1, _), (2, _)]) rfl ?_
                  refine sk_17 (kk_18 hT hp hb ?_)
                  rw [kx17, if_neg (fun q => by omega)] at h
                  exact h
                · skip
                  refine e_iinc (lsn := [(3, _), (0, _), (1, _), (2, _)]) 66 dX12_keyAt_63 rfl (by decide) rfl rfl ?_
                  refine e_goto 15 dX12_keyAt_66 (by decide) ?_
                  refine e_ldcS 17 (i := 20) (by decide) rfl rfl dX12_keyAt_15 rfl ?_
                  refine e_iload_n (i := 2) 18 dX12_keyAt_17 rfl rfl rfl ?_
                  refine e_iload_n (i := 3) 19 dX12_keyAt_18 rfl rfl rfl ?_
                  refine e_iadd 20 dX12_keyAt_19 rfl ?_
                  refine e_callF (av := [jI _]) 23 (i := 20) (by decide) mt_yJ_charAt mv_yJ_charAt wd_1410 (by decide) dX12_keyAt_20 rfl rfl rfl (Nat.le_of_ble_eq_true rfl) (jroom (by decide)) rfl (c_charAt (i := 20) (k := 88) (z := 101) (by decide) (by decide) (by decide +kernel) ?_)
                  dsimp only [jpush]
                  (try simp (disch := omega) only [put_r6, put_w6, put_r7, put_w7, put_r9, put_w9, put_r10, put_w10, put_r11, put_w11, put_r12, put_w12, put_r13, put_w13, put_r14, put_w14, put_r15, put_w15, put_ra, put_r8, put_r0, put_rt, put_wa, u1, u2, hn8])
                  refine e_bipush 25 dX12_keyAt_23 (by decide) rfl ?_
                  refine e_icmp_eq 28 69 dX12_keyAt_25 (by decide) (by decide) (by decide) rfl (fun h => absurd h (by decide)) (fun _ => ?_)
                  refine e_aload_n (i := 0) 29 dX12_keyAt_28 rfl rfl rfl ?_
                  refine e_geti (j := 6) 32 fl_12_97 dX12_keyAt_29 at_928 (by decide) rfl rfl (fun r29 => ?_)
                  simp (disch := omega) only [put_r6, put_w6, put_r7, put_w7, put_r9, put_w9, put_r10, put_w10, put_r11, put_w11, put_r12, put_w12, put_r13, put_w13, put_r14, put_w14, put_r15, put_w15, put_ra, put_r8, put_r0, put_rt, put_wa, u1, u2, hn8] at r29 ⊢
                  refine e_iload_n (i := 3) 33 dX12_keyAt_32 rfl rfl rfl ?_
                  refine e_iadd 34 dX12_keyAt_33 rfl ?_
                  refine e_aload_n (i := 0) 35 dX12_keyAt_34 rfl rfl rfl ?_
                  refine e_geti (j := 7) 38 fl_12_100 dX12_keyAt_35 at_928 (by decide) rfl rfl (fun r35 => ?_)
                  simp (disch := omega) only [put_r6, put_w6, put_r7, put_w7, put_r9, put_w9, put_r10, put_w10, put_r11, put_w11, put_r12, put_w12, put_r13, put_w13, put_r14, put_w14, put_r15, put_w15, put_ra, put_r8, put_r0, put_rt, put_wa, u1, u2, hn8] at r35 ⊢
                  refine e_icmp_ge 41 69 dX12_keyAt_38 (by omega) (by omega) (by decide) rfl (fun b38 => ?_) (fun b38 => ?_)
                  · skip
                    refine e_ldcS 71 (i := 20) (by decide) rfl rfl dX12_keyAt_69 rfl ?_
                    refine e_iload_n (i := 2) 72 dX12_keyAt_71 rfl rfl rfl ?_
                    refine e_iload_n (i := 3) 73 dX12_keyAt_72 rfl rfl rfl ?_
                    refine e_iadd 74 dX12_keyAt_73 rfl ?_
                    refine e_callF (av := [jI _]) 77 (i := 20) (by decide) mt_yJ_charAt mv_yJ_charAt wd_1410 (by decide) dX12_keyAt_74 rfl rfl rfl (Nat.le_of_ble_eq_true rfl) (jroom (by decide)) rfl (c_charAt (i := 20) (k := 88) (z := 101) (by decide) (by decide) (by decide +kernel) ?_)
                    dsimp only [jpush]
                    (try simp (disch := omega) only [put_r6, put_w6, put_r7, put_w7, put_r9, put_w9, put_r10, put_w10, put_r11, put_w11, put_r12, put_w12, put_r13, put_w13, put_r14, put_w14, put_r15, put_w15, put_ra, put_r8, put_r0, put_rt, put_wa, u1, u2, hn8])
                    refine e_bipush 79 dX12_keyAt_77 (by decide) rfl ?_
                    refine e_icmp_ne 82 97 dX12_keyAt_79 (by decide) (by decide) (by decide) rfl (fun _ => ?_) (fun h => absurd h (by decide))
                    refine e_ls (ls2 := [(0, _), (1, _), (2, _)]) rfl ?_
                    refine sk_17 (kk_18 hT hp hb ?_)
                    rw [kx17, if_neg (fun q => by omega)] at h
                    exact h
                  · skip
                    refine e_aload_n (i := 0) 42 dX12_keyAt_41 rfl rfl rfl ?_
                    refine e_getr (j := 3) 45 fl_12_21 dX12_keyAt_42 at_928 rfl rfl tp_928_3 rfl ?_
                    refine e_aload_n (i := 0) 46 dX12_keyAt_45 rfl rfl rfl ?_
                    refine e_geti (j := 6) 49 fl_12_97 dX12_keyAt_46 at_928 (by decide) rfl rfl (fun r46 => ?_)
                    simp (disch := omega) only [put_r6, put_w6, put_r7, put_w7, put_r9, put_w9, put_r10, put_w10, put_r11, put_w11, put_r12, put_w12, put_r13, put_w13, put_r14, put_w14, put_r15, put_w15, put_ra, put_r8, put_r0, put_rt, put_wa, u1, u2, hn8] at r46 ⊢
                    refine e_iload_n (i := 3) 50 dX12_keyAt_49 rfl rfl rfl ?_
                    refine e_iadd 51 dX12_keyAt_50 rfl ?_
                    refine e_iald 52 dX12_keyAt_51 ar_931 (by omega) (by omega) rfl (fun r51 => ?_)
                    simp (disch := omega) only [put_r6, put_w6, put_r7, put_w7, put_r9, put_w9, put_r10, put_w10, put_r11, put_w11, put_r12, put_w12, put_r13, put_w13, put_r14, put_w14, put_r15, put_w15, put_ra, put_r8, put_r0, put_rt, put_wa, u1, u2, hn8, Int.reduceAdd, Int.add_zero] at r51 ⊢
                    refine e_ldcS 54 (i := 20) (by decide) rfl rfl dX12_keyAt_52 rfl ?_
                    refine e_iload_n (i := 2) 55 dX12_keyAt_54 rfl rfl rfl ?_
                    refine e_iload_n (i := 3) 56 dX12_keyAt_55 rfl rfl rfl ?_
                    refine e_iadd 57 dX12_keyAt_56 rfl ?_
                    refine e_callF (av := [jI _]) 60 (i := 20) (by decide) mt_yJ_charAt mv_yJ_charAt wd_1410 (by decide) dX12_keyAt_57 rfl rfl rfl (Nat.le_of_ble_eq_true rfl) (jroom (by decide)) rfl (c_charAt (i := 20) (k := 88) (z := 101) (by decide) (by decide) (by decide +kernel) ?_)
                    dsimp only [jpush]
                    (try simp (disch := omega) only [put_r6, put_w6, put_r7, put_w7, put_r9, put_w9, put_r10, put_w10, put_r11, put_w11, put_r12, put_w12, put_r13, put_w13, put_r14, put_w14, put_r15, put_w15, put_ra, put_r8, put_r0, put_rt, put_wa, u1, u2, hn8])
                    refine e_icmp_ne 63 69 dX12_keyAt_60 (by omega) (by decide) (by decide) rfl (fun b60 => ?_) (fun b60 => ?_)
                    · skip
                      refine e_ldcS 71 (i := 20) (by decide) rfl rfl dX12_keyAt_69 rfl ?_
                      refine e_iload_n (i := 2) 72 dX12_keyAt_71 rfl rfl rfl ?_
                      refine e_iload_n (i := 3) 73 dX12_keyAt_72 rfl rfl rfl ?_
                      refine e_iadd 74 dX12_keyAt_73 rfl ?_
                      refine e_callF (av := [jI _]) 77 (i := 20) (by decide) mt_yJ_charAt mv_yJ_charAt wd_1410 (by decide) dX12_keyAt_74 rfl rfl rfl (Nat.le_of_ble_eq_true rfl) (jroom (by decide)) rfl (c_charAt (i := 20) (k := 88) (z := 101) (by decide) (by decide) (by decide +kernel) ?_)
                      dsimp only [jpush]
                      (try simp (disch := omega) only [put_r6, put_w6, put_r7, put_w7, put_r9, put_w9, put_r10, put_w10, put_r11, put_w11, put_r12, put_w12, put_r13, put_w13, put_r14, put_w14, put_r15, put_w15, put_ra, put_r8, put_r0, put_rt, put_wa, u1, u2, hn8])
                      refine e_bipush 79 dX12_keyAt_77 (by decide) rfl ?_
                      refine e_icmp_ne 82 97 dX12_keyAt_79 (by decide) (by decide) (by decide) rfl (fun _ => ?_) (fun h => absurd h (by decide))
                      refine e_ls (ls2 := [(0, _), (1, _), (2, _)]) rfl ?_
                      refine sk_17 (kk_18 hT hp hb ?_)
                      rw [kx17, if_neg (fun q => by omega)] at h
                      exact h
                    · skip
                      refine e_iinc (lsn := [(3, _), (0, _), (1, _), (2, _)]) 66 dX12_keyAt_63 rfl (by decide) rfl rfl ?_
                      refine e_goto 15 dX12_keyAt_66 (by decide) ?_
                      refine e_ldcS 17 (i := 20) (by decide) rfl rfl dX12_keyAt_15 rfl ?_
                      refine e_iload_n (i := 2) 18 dX12_keyAt_17 rfl rfl rfl ?_
                      refine e_iload_n (i := 3) 19 dX12_keyAt_18 rfl rfl rfl ?_
                      refine e_iadd 20 dX12_keyAt_19 rfl ?_
                      refine e_callF (av := [jI _]) 23 (i := 20) (by decide) mt_yJ_charAt mv_yJ_charAt wd_1410 (by decide) dX12_keyAt_20 rfl rfl rfl (Nat.le_of_ble_eq_true rfl) (jroom (by decide)) rfl (c_charAt (i := 20) (k := 89) (z := 32) (by decide) (by decide) (by decide +kernel) ?_)
                      dsimp only [jpush]
                      (try simp (disch := omega) only [put_r6, put_w6, put_r7, put_w7, put_r9, put_w9, put_r10, put_w10, put_r11, put_w11, put_r12, put_w12, put_r13, put_w13, put_r14, put_w14, put_r15, put_w15, put_ra, put_r8, put_r0, put_rt, put_wa, u1, u2, hn8])
                      refine e_bipush 25 dX12_keyAt_23 (by decide) rfl ?_
                      refine e_icmp_eq 28 69 dX12_keyAt_25 (by decide) (by decide) (by decide) rfl (fun _ => ?_) (fun h => absurd h (by decide))
                      refine e_ldcS 71 (i := 20) (by decide) rfl rfl dX12_keyAt_69 rfl ?_
                      refine e_iload_n (i := 2) 72 dX12_keyAt_71 rfl rfl rfl ?_
                      refine e_iload_n (i := 3) 73 dX12_keyAt_72 rfl rfl rfl ?_
                      refine e_iadd 74 dX12_keyAt_73 rfl ?_
                      refine e_callF (av := [jI _]) 77 (i := 20) (by decide) mt_yJ_charAt mv_yJ_charAt wd_1410 (by decide) dX12_keyAt_74 rfl rfl rfl (Nat.le_of_ble_eq_true rfl) (jroom (by decide)) rfl (c_charAt (i := 20) (k := 89) (z := 32) (by decide) (by decide) (by decide +kernel) ?_)
                      dsimp only [jpush]
                      (try simp (disch := omega) only [put_r6, put_w6, put_r7, put_w7, put_r9, put_w9, put_r10, put_w10, put_r11, put_w11, put_r12, put_w12, put_r13, put_w13, put_r14, put_w14, put_r15, put_w15, put_ra, put_r8, put_r0, put_rt, put_wa, u1, u2, hn8])
                      refine e_bipush 79 dX12_keyAt_77 (by decide) rfl ?_
                      refine e_icmp_ne 82 97 dX12_keyAt_79 (by decide) (by decide) (by decide) rfl (fun h => absurd h (by decide)) (fun _ => ?_)
                      refine e_aload_n (i := 0) 83 dX12_keyAt_82 rfl rfl rfl ?_
                      refine e_geti (j := 6) 86 fl_12_97 dX12_keyAt_83 at_928 (by decide) rfl rfl (fun r83 => ?_)
                      simp (disch := omega) only [put_r6, put_w6, put_r7, put_w7, put_r9, put_w9, put_r10, put_w10, put_r11, put_w11, put_r12, put_w12, put_r13, put_w13, put_r14, put_w14, put_r15, put_w15, put_ra, put_r8, put_r0, put_rt, put_wa, u1, u2, hn8] at r83 ⊢
                      refine e_iload_n (i := 3) 87 dX12_keyAt_86 rfl rfl rfl ?_
                      refine e_iadd 88 dX12_keyAt_87 rfl ?_
                      refine e_aload_n (i := 0) 89 dX12_keyAt_88 rfl rfl rfl ?_
                      refine e_geti (j := 7) 92 fl_12_100 dX12_keyAt_89 at_928 (by decide) rfl rfl (fun r89 => ?_)
                      simp (disch := omega) only [put_r6, put_w6, put_r7, put_w7, put_r9, put_w9, put_r10, put_w10, put_r11, put_w11, put_r12, put_w12, put_r13, put_w13, put_r14, put_w14, put_r15, put_w15, put_ra, put_r8, put_r0, put_rt, put_wa, u1, u2, hn8] at r89 ⊢
                      refine e_icmp_ne 95 97 dX12_keyAt_92 (by omega) (by omega) (by decide) rfl (fun b92 => ?_) (fun b92 => ?_)
                      · skip
                        refine e_ls (ls2 := [(0, _), (1, _), (2, _)]) rfl ?_
                        refine sk_17 (kk_18 hT hp hb ?_)
                        rw [kx17, if_neg (fun q => by omega)] at h
                        exact h
                      · skip
                        refine e_iload_n (i := 1) 96 dX12_keyAt_95 rfl rfl rfl ?_
                        refine e_iret dX12_keyAt_96 ?_
                        rw [kx17, if_pos (by omega)] at h
                        exact h

theorem sk_16 {X : jX} {Y : jM} {Q : Int → jM → Prop} (h : jE X yX12_keyAt cX12_keyAt 4 (some .int) 5 Q Y 4 [(0, jR 928), (1, jI 17), (2, jI 84)] []) : jE X yX12_keyAt cX12_keyAt 4 (some .int) 5 Q Y 97 [(0, jR 928), (1, jI 16), (2, jI 79)] [] := by
  refine e_ldcS 99 (i := 20) (by decide) rfl rfl dX12_keyAt_97 rfl ?_
  refine e_iload_n (i := 2) 100 dX12_keyAt_99 rfl rfl rfl ?_
  refine e_callF (av := [jI _]) 103 (i := 20) (by decide) mt_yJ_charAt mv_yJ_charAt wd_1410 (by decide) dX12_keyAt_100 rfl rfl rfl (Nat.le_of_ble_eq_true rfl) (jroom (by decide)) rfl (c_charAt (i := 20) (k := 79) (z := 115) (by decide) (by decide) (by decide +kernel) ?_)
  dsimp only [jpush]
  refine e_bipush 105 dX12_keyAt_103 (by decide) rfl ?_
  refine e_icmp_eq 108 114 dX12_keyAt_105 (by decide) (by decide) (by decide) rfl (fun h => absurd h (by decide)) (fun _ => ?_)
  refine e_iinc (lsn := [(2, _), (0, _), (1, _)]) 111 dX12_keyAt_108 rfl (by decide) rfl rfl ?_
  refine e_goto 97 dX12_keyAt_111 (by decide) ?_
  refine e_ldcS 99 (i := 20) (by decide) rfl rfl dX12_keyAt_97 rfl ?_
  refine e_iload_n (i := 2) 100 dX12_keyAt_99 rfl rfl rfl ?_
  refine e_callF (av := [jI _]) 103 (i := 20) (by decide) mt_yJ_charAt mv_yJ_charAt wd_1410 (by decide) dX12_keyAt_100 rfl rfl rfl (Nat.le_of_ble_eq_true rfl) (jroom (by decide)) rfl (c_charAt (i := 20) (k := 80) (z := 105) (by decide) (by decide) (by decide +kernel) ?_)
  dsimp only [jpush]
  refine e_bipush 105 dX12_keyAt_103 (by decide) rfl ?_
  refine e_icmp_eq 108 114 dX12_keyAt_105 (by decide) (by decide) (by decide) rfl (fun h => absurd h (by decide)) (fun _ => ?_)
  refine e_iinc (lsn := [(2, _), (0, _), (1, _)]) 111 dX12_keyAt_108 rfl (by decide) rfl rfl ?_
  refine e_goto 97 dX12_keyAt_111 (by decide) ?_
  refine e_ldcS 99 (i := 20) (by decide) rfl rfl dX12_keyAt_97 rfl ?_
  refine e_iload_n (i := 2) 100 dX12_keyAt_99 rfl rfl rfl ?_
  refine e_callF (av := [jI _]) 103 (i := 20) (by decide) mt_yJ_charAt mv_yJ_charAt wd_1410 (by decide) dX12_keyAt_100 rfl rfl rfl (Nat.le_of_ble_eq_true rfl) (jroom (by decide)) rfl (c_charAt (i := 20) (k := 81) (z := 122) (by decide) (by decide) (by decide +kernel) ?_)
  dsimp only [jpush]
  refine e_bipush 105 dX12_keyAt_103 (by decide) rfl ?_
  refine e_icmp_eq 108 114 dX12_keyAt_105 (by decide) (by decide) (by decide) rfl (fun h => absurd h (by decide)) (fun _ => ?_)
  refine e_iinc (lsn := [(2, _), (0, _), (1, _)]) 111 dX12_keyAt_108 rfl (by decide) rfl rfl ?_
  refine e_goto 97 dX12_keyAt_111 (by decide) ?_
  refine e_ldcS 99 (i := 20) (by decide) rfl rfl dX12_keyAt_97 rfl ?_
  refine e_iload_n (i := 2) 100 dX12_keyAt_99 rfl rfl rfl ?_
  refine e_callF (av := [jI _]) 103 (i := 20) (by decide) mt_yJ_charAt mv_yJ_charAt wd_1410 (by decide) dX12_keyAt_100 rfl rfl rfl (Nat.le_of_ble_eq_true rfl) (jroom (by decide)) rfl (c_charAt (i := 20) (k := 82) (z := 101) (by decide) (by decide) (by decide +kernel) ?_)
  dsimp only [jpush]
  refine e_bipush 105 dX12_keyAt_103 (by decide) rfl ?_
  refine e_icmp_eq 108 114 dX12_keyAt_105 (by decide) (by decide) (by decide) rfl (fun h => absurd h (by decide)) (fun _ => ?_)
  refine e_iinc (lsn := [(2, _), (0, _), (1, _)]) 111 dX12_keyAt_108 rfl (by decide) rfl rfl ?_
  refine e_goto 97 dX12_keyAt_111 (by decide) ?_
  refine e_ldcS 99 (i := 20) (by decide) rfl rfl dX12_keyAt_97 rfl ?_
  refine e_iload_n (i := 2) 100 dX12_keyAt_99 rfl rfl rfl ?_
  refine e_callF (av := [jI _]) 103 (i := 20) (by decide) mt_yJ_charAt mv_yJ_charAt wd_1410 (by decide) dX12_keyAt_100 rfl rfl rfl (Nat.le_of_ble_eq_true rfl) (jroom (by decide)) rfl (c_charAt (i := 20) (k := 83) (z := 32) (by decide) (by decide) (by decide +kernel) ?_)
  dsimp only [jpush]
  refine e_bipush 105 dX12_keyAt_103 (by decide) rfl ?_
  refine e_icmp_eq 108 114 dX12_keyAt_105 (by decide) (by decide) (by decide) rfl (fun _ => ?_) (fun h => absurd h (by decide))
  refine e_iinc (lsn := [(2, _), (0, _), (1, _)]) 117 dX12_keyAt_114 rfl (by decide) rfl rfl ?_
  refine e_iinc (lsn := [(1, _), (2, _), (0, _)]) 120 dX12_keyAt_117 rfl (by decide) rfl rfl ?_
  refine e_goto 4 dX12_keyAt_120 (by decide) ?_
  refine e_ls (ls2 := [(0, _), (1, _), (2, _)]) rfl ?_
  exact h

theorem kk_16 {X : jX} {M : jM} {n : Int} {Q : Int → jM → Prop} (hT : RT M n) {s : PS} (hp : 0 ≤ s.1) (hb : s.1 ≤ s.2.1 ∧ s.2.1 ≤ n) (h : Q (kx16 (M 931) s.1 s.2.1) (put M s)) : jE X yX12_keyAt cX12_keyAt 4 (some .int) 5 Q (put M s) 4 [(0, jR 928), (1, jI 16), (2, jI 79)] [] := by
  have hn8 := hT.1
  have hn := hT.2.1
  refine e_iload_n (i := 2) 5 dX12_keyAt_4 rfl rfl rfl ?_
  refine e_ldcS 7 (i := 20) (by decide) rfl rfl dX12_keyAt_5 rfl ?_
  refine e_callF (av := []) 10 (i := 20) (by decide) mt_yJ_len mv_yJ_len wd_1409 (by decide) dX12_keyAt_7 rfl rfl rfl (Nat.le_of_ble_eq_true rfl) (jroom (by decide)) rfl (c_strlen (i := 20) (z := 99) (by decide) (by decide) ?_)
  dsimp only [jpush]
  (try simp (disch := omega) only [put_r6, put_w6, put_r7, put_w7, put_r9, put_w9, put_r10, put_w10, put_r11, put_w11, put_r12, put_w12, put_r13, put_w13, put_r14, put_w14, put_r15, put_w15, put_ra, put_r8, put_r0, put_rt, put_wa, u1, u2, hn8])
  refine e_icmp_ge 13 123 dX12_keyAt_10 (by decide) (by decide) (by decide) rfl (fun h => absurd h (by decide)) (fun _ => ?_)
  refine e_iconst 14 dX12_keyAt_13 rfl ?_
  refine e_istore_n (i := 3) (lsn := [(3, _), (0, _), (1, _), (2, _)]) 15 dX12_keyAt_14 rfl (by decide) rfl rfl ?_
  refine e_ldcS 17 (i := 20) (by decide) rfl rfl dX12_keyAt_15 rfl ?_
  refine e_iload_n (i := 2) 18 dX12_keyAt_17 rfl rfl rfl ?_
  refine e_iload_n (i := 3) 19 dX12_keyAt_18 rfl rfl rfl ?_
  refine e_iadd 20 dX12_keyAt_19 rfl ?_
  refine e_callF (av := [jI _]) 23 (i := 20) (by decide) mt_yJ_charAt mv_yJ_charAt wd_1410 (by decide) dX12_keyAt_20 rfl rfl rfl (Nat.le_of_ble_eq_true rfl) (jroom (by decide)) rfl (c_charAt (i := 20) (k := 79) (z := 115) (by decide) (by decide) (by decide +kernel) ?_)
  dsimp only [jpush]
  (try simp (disch := omega) only [put_r6, put_w6, put_r7, put_w7, put_r9, put_w9, put_r10, put_w10, put_r11, put_w11, put_r12, put_w12, put_r13, put_w13, put_r14, put_w14, put_r15, put_w15, put_ra, put_r8, put_r0, put_rt, put_wa, u1, u2, hn8])
  refine e_bipush 25 dX12_keyAt_23 (by decide) rfl ?_
  refine e_icmp_eq 28 69 dX12_keyAt_25 (by decide) (by decide) (by decide) rfl (fun h => absurd h (by decide)) (fun _ => ?_)
  refine e_aload_n (i := 0) 29 dX12_keyAt_28 rfl rfl rfl ?_
  refine e_geti (j := 6) 32 fl_12_97 dX12_keyAt_29 at_928 (by decide) rfl rfl (fun r29 => ?_)
  simp (disch := omega) only [put_r6, put_w6, put_r7, put_w7, put_r9, put_w9, put_r10, put_w10, put_r11, put_w11, put_r12, put_w12, put_r13, put_w13, put_r14, put_w14, put_r15, put_w15, put_ra, put_r8, put_r0, put_rt, put_wa, u1, u2, hn8] at r29 ⊢
  refine e_iload_n (i := 3) 33 dX12_keyAt_32 rfl rfl rfl ?_
  refine e_iadd 34 dX12_keyAt_33 rfl ?_
  refine e_aload_n (i := 0) 35 dX12_keyAt_34 rfl rfl rfl ?_
  refine e_geti (j := 7) 38 fl_12_100 dX12_keyAt_35 at_928 (by decide) rfl rfl (fun r35 => ?_)
  simp (disch := omega) only [put_r6, put_w6, put_r7, put_w7, put_r9, put_w9, put_r10, put_w10, put_r11, put_w11, put_r12, put_w12, put_r13, put_w13, put_r14, put_w14, put_r15, put_w15, put_ra, put_r8, put_r0, put_rt, put_wa, u1, u2, hn8] at r35 ⊢
  refine e_icmp_ge 41 69 dX12_keyAt_38 (by omega) (by omega) (by decide) rfl (fun b38 => ?_) (fun b38 => ?_)
  · skip
    refine e_ldcS 71 (i := 20) (by decide) rfl rfl dX12_keyAt_69 rfl ?_
    refine e_iload_n (i := 2) 72 dX12_keyAt_71 rfl rfl rfl ?_
    refine e_iload_n (i := 3) 73 dX12_keyAt_72 rfl rfl rfl ?_
    refine e_iadd 74 dX12_keyAt_73 rfl ?_
    refine e_callF (av := [jI _]) 77 (i := 20) (by decide) mt_yJ_charAt mv_yJ_charAt wd_1410 (by decide) dX12_keyAt_74 rfl rfl rfl (Nat.le_of_ble_eq_true rfl) (jroom (by decide)) rfl (c_charAt (i := 20) (k := 79) (z := 115) (by decide) (by decide) (by decide +kernel) ?_)
    dsimp only [jpush]
    (try simp (disch := omega) only [put_r6, put_w6, put_r7, put_w7, put_r9, put_w9, put_r10, put_w10, put_r11, put_w11, put_r12, put_w12, put_r13, put_w13, put_r14, put_w14, put_r15, put_w15, put_ra, put_r8, put_r0, put_rt, put_wa, u1, u2, hn8])
    refine e_bipush 79 dX12_keyAt_77 (by decide) rfl ?_
    refine e_icmp_ne 82 97 dX12_keyAt_79 (by decide) (by decide) (by decide) rfl (fun _ => ?_) (fun h => absurd h (by decide))
    refine e_ls (ls2 := [(0, _), (1, _), (2, _)]) rfl ?_
    refine sk_16 (kk_17 hT hp hb ?_)
    rw [kx16, if_neg (fun q => by omega)] at h
    exact h
  · skip
    refine e_aload_n (i := 0) 42 dX12_keyAt_41 rfl rfl rfl ?_
    refine e_getr (j := 3) 45 fl_12_21 dX12_keyAt_42 at_928 rfl rfl tp_928_3 rfl ?_
    refine e_aload_n (i := 0) 46 dX12_keyAt_45 rfl rfl rfl ?_
    refine e_geti (j := 6) 49 fl_12_97 dX12_keyAt_46 at_928 (by decide) rfl rfl (fun r46 => ?_)
    simp (disch := omega) only [put_r6, put_w6, put_r7, put_w7, put_r9, put_w9, put_r10, put_w10, put_r11, put_w11, put_r12, put_w12, put_r13, put_w13, put_r14, put_w14, put_r15, put_w15, put_ra, put_r8, put_r0, put_rt, put_wa, u1, u2, hn8] at r46 ⊢
    refine e_iload_n (i := 3) 50 dX12_keyAt_49 rfl rfl rfl ?_
    refine e_iadd 51 dX12_keyAt_50 rfl ?_
    refine e_iald 52 dX12_keyAt_51 ar_931 (by omega) (by omega) rfl (fun r51 => ?_)
    simp (disch := omega) only [put_r6, put_w6, put_r7, put_w7, put_r9, put_w9, put_r10, put_w10, put_r11, put_w11, put_r12, put_w12, put_r13, put_w13, put_r14, put_w14, put_r15, put_w15, put_ra, put_r8, put_r0, put_rt, put_wa, u1, u2, hn8, Int.reduceAdd, Int.add_zero] at r51 ⊢
    refine e_ldcS 54 (i := 20) (by decide) rfl rfl dX12_keyAt_52 rfl ?_
    refine e_iload_n (i := 2) 55 dX12_keyAt_54 rfl rfl rfl ?_
    refine e_iload_n (i := 3) 56 dX12_keyAt_55 rfl rfl rfl ?_
    refine e_iadd 57 dX12_keyAt_56 rfl ?_
    refine e_callF (av := [jI _]) 60 (i := 20) (by decide) mt_yJ_charAt mv_yJ_charAt wd_1410 (by decide) dX12_keyAt_57 rfl rfl rfl (Nat.le_of_ble_eq_true rfl) (jroom (by decide)) rfl (c_charAt (i := 20) (k := 79) (z := 115) (by decide) (by decide) (by decide +kernel) ?_)
    dsimp only [jpush]
    (try simp (disch := omega) only [put_r6, put_w6, put_r7, put_w7, put_r9, put_w9, put_r10, put_w10, put_r11, put_w11, put_r12, put_w12, put_r13, put_w13, put_r14, put_w14, put_r15, put_w15, put_ra, put_r8, put_r0, put_rt, put_wa, u1, u2, hn8])
    refine e_icmp_ne 63 69 dX12_keyAt_60 (by omega) (by decide) (by decide) rfl (fun b60 => ?_) (fun b60 => ?_)
    · skip
      refine e_ldcS 71 (i := 20) (by decide) rfl rfl dX12_keyAt_69 rfl ?_
      refine e_iload_n (i := 2) 72 dX12_keyAt_71 rfl rfl rfl ?_
      refine e_iload_n (i := 3) 73 dX12_keyAt_72 rfl rfl rfl ?_
      refine e_iadd 74 dX12_keyAt_73 rfl ?_
      refine e_callF (av := [jI _]) 77 (i := 20) (by decide) mt_yJ_charAt mv_yJ_charAt wd_1410 (by decide) dX12_keyAt_74 rfl rfl rfl (Nat.le_of_ble_eq_true rfl) (jroom (by decide)) rfl (c_charAt (i := 20) (k := 79) (z := 115) (by decide) (by decide) (by decide +kernel) ?_)
      dsimp only [jpush]
      (try simp (disch := omega) only [put_r6, put_w6, put_r7, put_w7, put_r9, put_w9, put_r10, put_w10, put_r11, put_w11, put_r12, put_w12, put_r13, put_w13, put_r14, put_w14, put_r15, put_w15, put_ra, put_r8, put_r0, put_rt, put_wa, u1, u2, hn8])
      refine e_bipush 79 dX12_keyAt_77 (by decide) rfl ?_
      refine e_icmp_ne 82 97 dX12_keyAt_79 (by decide) (by decide) (by decide) rfl (fun _ => ?_) (fun h => absurd h (by decide))
      refine e_ls (ls2 := [(0, _), (1, _), (2, _)]) rfl ?_
      refine sk_16 (kk_17 hT hp hb ?_)
      rw [kx16, if_neg (fun q => by omega)] at h
      exact h
    · skip
      refine e_iinc (lsn := [(3, _), (0, _), (1, _), (2, _)]) 66 dX12_keyAt_63 rfl (by decide) rfl rfl ?_
      refine e_goto 15 dX12_keyAt_66 (by decide) ?_
      refine e_ldcS 17 (i := 20) (by decide) rfl rfl dX12_keyAt_15 rfl ?_
      refine e_iload_n (i := 2) 18 dX12_keyAt_17 rfl rfl rfl ?_
      refine e_iload_n (i := 3) 19 dX12_keyAt_18 rfl rfl rfl ?_
      refine e_iadd 20 dX12_keyAt_19 rfl ?_
      refine e_callF (av := [jI _]) 23 (i := 20) (by decide) mt_yJ_charAt mv_yJ_charAt wd_1410 (by decide) dX12_keyAt_20 rfl rfl rfl (Nat.le_of_ble_eq_true rfl) (jroom (by decide)) rfl (c_charAt (i := 20) (k := 80) (z := 105) (by decide) (by decide) (by decide +kernel) ?_)
      dsimp only [jpush]
      (try simp (disch := omega) only [put_r6, put_w6, put_r7, put_w7, put_r9, put_w9, put_r10, put_w10, put_r11, put_w11, put_r12, put_w12, put_r13, put_w13, put_r14, put_w14, put_r15, put_w15, put_ra, put_r8, put_r0, put_rt, put_wa, u1, u2, hn8])
      refine e_bipush 25 dX12_keyAt_23 (by decide) rfl ?_
      refine e_icmp_eq 28 69 dX12_keyAt_25 (by decide) (by decide) (by decide) rfl (fun h => absurd h (by decide)) (fun _ => ?_)
      refine e_aload_n (i := 0) 29 dX12_keyAt_28 rfl rfl rfl ?_
      refine e_geti (j := 6) 32 fl_12_97 dX12_keyAt_29 at_928 (by decide) rfl rfl (fun r29 => ?_)
      simp (disch := omega) only [put_r6, put_w6, put_r7, put_w7, put_r9, put_w9, put_r10, put_w10, put_r11, put_w11, put_r12, put_w12, put_r13, put_w13, put_r14, put_w14, put_r15, put_w15, put_ra, put_r8, put_r0, put_rt, put_wa, u1, u2, hn8] at r29 ⊢
      refine e_iload_n (i := 3) 33 dX12_keyAt_32 rfl rfl rfl ?_
      refine e_iadd 34 dX12_keyAt_33 rfl ?_
      refine e_aload_n (i := 0) 35 dX12_keyAt_34 rfl rfl rfl ?_
      refine e_geti (j := 7) 38 fl_12_100 dX12_keyAt_35 at_928 (by decide) rfl rfl (fun r35 => ?_)
      simp (disch := omega) only [put_r6, put_w6, put_r7, put_w7, put_r9, put_w9, put_r10, put_w10, put_r11, put_w11, put_r12, put_w12, put_r13, put_w13, put_r14, put_w14, put_r15, put_w15, put_ra, put_r8, put_r0, put_rt, put_wa, u1, u2, hn8] at r35 ⊢
      refine e_icmp_ge 41 69 dX12_keyAt_38 (by omega) (by omega) (by decide) rfl (fun b38 => ?_) (fun b38 => ?_)
      · skip
        refine e_ldcS 71 (i := 20) (by decide) rfl rfl dX12_keyAt_69 rfl ?_
        refine e_iload_n (i := 2) 72 dX12_keyAt_71 rfl rfl rfl ?_
        refine e_iload_n (i := 3) 73 dX12_keyAt_72 rfl rfl rfl ?_
        refine e_iadd 74 dX12_keyAt_73 rfl ?_
        refine e_callF (av := [jI _]) 77 (i := 20) (by decide) mt_yJ_charAt mv_yJ_charAt wd_1410 (by decide) dX12_keyAt_74 rfl rfl rfl (Nat.le_of_ble_eq_true rfl) (jroom (by decide)) rfl (c_charAt (i := 20) (k := 80) (z := 105) (by decide) (by decide) (by decide +kernel) ?_)
        dsimp only [jpush]
        (try simp (disch := omega) only [put_r6, put_w6, put_r7, put_w7, put_r9, put_w9, put_r10, put_w10, put_r11, put_w11, put_r12, put_w12, put_r13, put_w13, put_r14, put_w14, put_r15, put_w15, put_ra, put_r8, put_r0, put_rt, put_wa, u1, u2, hn8])
        refine e_bipush 79 dX12_keyAt_77 (by decide) rfl ?_
        refine e_icmp_ne 82 97 dX12_keyAt_79 (by decide) (by decide) (by decide) rfl (fun _ => ?_) (fun h => absurd h (by decide))
        refine e_ls (ls2 := [(0, _), (1, _), (2, _)]) rfl ?_
        refine sk_16 (kk_17 hT hp hb ?_)
        rw [kx16, if_neg (fun q => by omega)] at h
        exact h
      · skip
        refine e_aload_n (i := 0) 42 dX12_keyAt_41 rfl rfl rfl ?_
        refine e_getr (j := 3) 45 fl_12_21 dX12_keyAt_42 at_928 rfl rfl tp_928_3 rfl ?_
        refine e_aload_n (i := 0) 46 dX12_keyAt_45 rfl rfl rfl ?_
        refine e_geti (j := 6) 49 fl_12_97 dX12_keyAt_46 at_928 (by decide) rfl rfl (fun r46 => ?_)
        simp (disch := omega) only [put_r6, put_w6, put_r7, put_w7, put_r9, put_w9, put_r10, put_w10, put_r11, put_w11, put_r12, put_w12, put_r13, put_w13, put_r14, put_w14, put_r15, put_w15, put_ra, put_r8, put_r0, put_rt, put_wa, u1, u2, hn8] at r46 ⊢
        refine e_iload_n (i := 3) 50 dX12_keyAt_49 rfl rfl rfl ?_
        refine e_iadd 51 dX12_keyAt_50 rfl ?_
        refine e_iald 52 dX12_keyAt_51 ar_931 (by omega) (by omega) rfl (fun r51 => ?_)
        simp (disch := omega) only [put_r6, put_w6, put_r7, put_w7, put_r9, put_w9, put_r10, put_w10, put_r11, put_w11, put_r12, put_w12, put_r13, put_w13, put_r14, put_w14, put_r15, put_w15, put_ra, put_r8, put_r0, put_rt, put_wa, u1, u2, hn8, Int.reduceAdd, Int.add_zero] at r51 ⊢
        refine e_ldcS 54 (i := 20) (by decide) rfl rfl dX12_keyAt_52 rfl ?_
        refine e_iload_n (i := 2) 55 dX12_keyAt_54 rfl rfl rfl ?_
        refine e_iload_n (i := 3) 56 dX12_keyAt_55 rfl rfl rfl ?_
        refine e_iadd 57 dX12_keyAt_56 rfl ?_
        refine e_callF (av := [jI _]) 60 (i := 20) (by decide) mt_yJ_charAt mv_yJ_charAt wd_1410 (by decide) dX12_keyAt_57 rfl rfl rfl (Nat.le_of_ble_eq_true rfl) (jroom (by decide)) rfl (c_charAt (i := 20) (k := 80) (z := 105) (by decide) (by decide) (by decide +kernel) ?_)
        dsimp only [jpush]
        (try simp (disch := omega) only [put_r6, put_w6, put_r7, put_w7, put_r9, put_w9, put_r10, put_w10, put_r11, put_w11, put_r12, put_w12, put_r13, put_w13, put_r14, put_w14, put_r15, put_w15, put_ra, put_r8, put_r0, put_rt, put_wa, u1, u2, hn8])
        refine e_icmp_ne 63 69 dX12_keyAt_60 (by omega) (by decide) (by decide) rfl (fun b60 => ?_) (fun b60 => ?_)
        · skip
          refine e_ldcS 71 (i := 20) (by decide) rfl rfl dX12_keyAt_69 rfl ?_
          refine e_iload_n (i := 2) 72 dX12_keyAt_71 rfl rfl rfl ?_
          refine e_iload_n (i := 3) 73 dX12_keyAt_72 rfl rfl rfl ?_
          refine e_iadd 74 dX12_keyAt_73 rfl ?_
          refine e_callF (av := [jI _]) 77 (i := 20) (by decide) mt_yJ_charAt mv_yJ_charAt wd_1410 (by decide) dX12_keyAt_74 rfl rfl rfl (Nat.le_of_ble_eq_true rfl) (jroom (by decide)) rfl (c_charAt (i := 20) (k := 80) (z := 105) (by decide) (by decide) (by decide +kernel) ?_)
          dsimp only [jpush]
          (try simp (disch := omega) only [put_r6, put_w6, put_r7, put_w7, put_r9, put_w9, put_r10, put_w10, put_r11, put_w11, put_r12, put_w12, put_r13, put_w13, put_r14, put_w14, put_r15, put_w15, put_ra, put_r8, put_r0, put_rt, put_wa, u1, u2, hn8])
          refine e_bipush 79 dX12_keyAt_77 (by decide) rfl ?_
          refine e_icmp_ne 82 97 dX12_keyAt_79 (by decide) (by decide) (by decide) rfl (fun _ => ?_) (fun h => absurd h (by decide))
          refine e_ls (ls2 := [(0, _), (1, _), (2, _)]) rfl ?_
          refine sk_16 (kk_17 hT hp hb ?_)
          rw [kx16, if_neg (fun q => by omega)] at h
          exact h
        · skip
          refine e_iinc (lsn := [(3, _), (0, _), (1, _), (2, _)]) 66 dX12_keyAt_63 rfl (by decide) rfl rfl ?_
          refine e_goto 15 dX12_keyAt_66 (by decide) ?_
          refine e_ldcS 17 (i := 20) (by decide) rfl rfl dX12_keyAt_15 rfl ?_
          refine e_iload_n (i := 2) 18 dX12_keyAt_17 rfl rfl rfl ?_
          refine e_iload_n (i := 3) 19 dX12_keyAt_18 rfl rfl rfl ?_
          refine e_iadd 20 dX12_keyAt_19 rfl ?_
          refine e_callF (av := [jI _]) 23 (i := 20) (by decide) mt_yJ_charAt mv_yJ_charAt wd_1410 (by decide) dX12_keyAt_20 rfl rfl rfl (Nat.le_of_ble_eq_true rfl) (jroom (by decide)) rfl (c_charAt (i := 20) (k := 81) (z := 122) (by decide) (by decide) (by decide +kernel) ?_)
          dsimp only [jpush]
          (try simp (disch := omega) only [put_r6, put_w6, put_r7, put_w7, put_r9, put_w9, put_r10, put_w10, put_r11, put_w11, put_r12, put_w12, put_r13, put_w13, put_r14, put_w14, put_r15, put_w15, put_ra, put_r8, put_r0, put_rt, put_wa, u1, u2, hn8])
          refine e_bipush 25 dX12_keyAt_23 (by decide) rfl ?_
          refine e_icmp_eq 28 69 dX12_keyAt_25 (by decide) (by decide) (by decide) rfl (fun h => absurd h (by decide)) (fun _ => ?_)
          refine e_aload_n (i := 0) 29 dX12_keyAt_28 rfl rfl rfl ?_
          refine e_geti (j := 6) 32 fl_12_97 dX12_keyAt_29 at_928 (by decide) rfl rfl (fun r29 => ?_)
          simp (disch := omega) only [put_r6, put_w6, put_r7, put_w7, put_r9, put_w9, put_r10, put_w10, put_r11, put_w11, put_r12, put_w12, put_r13, put_w13, put_r14, put_w14, put_r15, put_w15, put_ra, put_r8, put_r0, put_rt, put_wa, u1, u2, hn8] at r29 ⊢
          refine e_iload_n (i := 3) 33 dX12_keyAt_32 rfl rfl rfl ?_
          refine e_iadd 34 dX12_keyAt_33 rfl ?_
          refine e_aload_n (i := 0) 35 dX12_keyAt_34 rfl rfl rfl ?_
          refine e_geti (j := 7) 38 fl_12_100 dX12_keyAt_35 at_928 (by decide) rfl rfl (fun r35 => ?_)
          simp (disch := omega) only [put_r6, put_w6, put_r7, put_w7, put_r9, put_w9, put_r10, put_w10, put_r11, put_w11, put_r12, put_w12, put_r13, put_w13, put_r14, put_w14, put_r15, put_w15, put_ra, put_r8, put_r0, put_rt, put_wa, u1, u2, hn8] at r35 ⊢
          refine e_icmp_ge 41 69 dX12_keyAt_38 (by omega) (by omega) (by decide) rfl (fun b38 => ?_) (fun b38 => ?_)
          · skip
            refine e_ldcS 71 (i := 20) (by decide) rfl rfl dX12_keyAt_69 rfl ?_
            refine e_iload_n (i := 2) 72 dX12_keyAt_71 rfl rfl rfl ?_
            refine e_iload_n (i := 3) 73 dX12_keyAt_72 rfl rfl rfl ?_
            refine e_iadd 74 dX12_keyAt_73 rfl ?_
            refine e_callF (av := [jI _]) 77 (i := 20) (by decide) mt_yJ_charAt mv_yJ_charAt wd_1410 (by decide) dX12_keyAt_74 rfl rfl rfl (Nat.le_of_ble_eq_true rfl) (jroom (by decide)) rfl (c_charAt (i := 20) (k := 81) (z := 122) (by decide) (by decide) (by decide +kernel) ?_)
            dsimp only [jpush]
            (try simp (disch := omega) only [put_r6, put_w6, put_r7, put_w7, put_r9, put_w9, put_r10, put_w10, put_r11, put_w11, put_r12, put_w12, put_r13, put_w13, put_r14, put_w14, put_r15, put_w15, put_ra, put_r8, put_r0, put_rt, put_wa, u1, u2, hn8])
            refine e_bipush 79 dX12_keyAt_77 (by decide) rfl ?_
            refine e_icmp_ne 82 97 dX12_keyAt_79 (by decide) (by decide) (by decide) rfl (fun _ => ?_) (fun h => absurd h (by decide))
            refine e_ls (ls2 := [(0, _), (1, _), (2, _)]) rfl ?_
            refine sk_16 (kk_17 hT hp hb ?_)
            rw [kx16, if_neg (fun q => by omega)] at h
            exact h
          · skip
            refine e_aload_n (i := 0) 42 dX12_keyAt_41 rfl rfl rfl ?_
            refine e_getr (j := 3) 45 fl_12_21 dX12_keyAt_42 at_928 rfl rfl tp_928_3 rfl ?_
            refine e_aload_n (i := 0) 46 dX12_keyAt_45 rfl rfl rfl ?_
            refine e_geti (j := 6) 49 fl_12_97 dX12_keyAt_46 at_928 (by decide) rfl rfl (fun r46 => ?_)
            simp (disch := omega) only [put_r6, put_w6, put_r7, put_w7, put_r9, put_w9, put_r10, put_w10, put_r11, put_w11, put_r12, put_w12, put_r13, put_w13, put_r14, put_w14, put_r15, put_w15, put_ra, put_r8, put_r0, put_rt, put_wa, u1, u2, hn8] at r46 ⊢
            refine e_iload_n (i := 3) 50 dX12_keyAt_49 rfl rfl rfl ?_
            refine e_iadd 51 dX12_keyAt_50 rfl ?_
            refine e_iald 52 dX12_keyAt_51 ar_931 (by omega) (by omega) rfl (fun r51 => ?_)
            simp (disch := omega) only [put_r6, put_w6, put_r7, put_w7, put_r9, put_w9, put_r10, put_w10, put_r11, put_w11, put_r12, put_w12, put_r13, put_w13, put_r14, put_w14, put_r15, put_w15, put_ra, put_r8, put_r0, put_rt, put_wa, u1, u2, hn8, Int.reduceAdd, Int.add_zero] at r51 ⊢
            refine e_ldcS 54 (i := 20) (by decide) rfl rfl dX12_keyAt_52 rfl ?_
            refine e_iload_n (i := 2) 55 dX12_keyAt_54 rfl rfl rfl ?_
            refine e_iload_n (i := 3) 56 dX12_keyAt_55 rfl rfl rfl ?_
            refine e_iadd 57 dX12_keyAt_56 rfl ?_
            refine e_callF (av := [jI _]) 60 (i := 20) (by decide) mt_yJ_charAt mv_yJ_charAt wd_1410 (by decide) dX12_keyAt_57 rfl rfl rfl (Nat.le_of_ble_eq_true rfl) (jroom (by decide)) rfl (c_charAt (i := 20) (k := 81) (z := 122) (by decide) (by decide) (by decide +kernel) ?_)
            dsimp only [jpush]
            (try simp (disch := omega) only [put_r6, put_w6, put_r7, put_w7, put_r9, put_w9, put_r10, put_w10, put_r11, put_w11, put_r12, put_w12, put_r13, put_w13, put_r14, put_w14, put_r15, put_w15, put_ra, put_r8, put_r0, put_rt, put_wa, u1, u2, hn8])
            refine e_icmp_ne 63 69 dX12_keyAt_60 (by omega) (by decide) (by decide) rfl (fun b60 => ?_) (fun b60 => ?_)
            · skip
              refine e_ldcS 71 (i := 20) (by decide) rfl rfl dX12_keyAt_69 rfl ?_
              refine e_iload_n (i := 2) 72 dX12_keyAt_71 rfl rfl rfl ?_
              refine e_iload_n (i := 3) 73 dX12_keyAt_72 rfl rfl rfl ?_
              refine e_iadd 74 dX12_keyAt_73 rfl ?_
              refine e_callF (av := [jI _]) 77 (i := 20) (by decide) mt_yJ_charAt mv_yJ_charAt wd_1410 (by decide) dX12_keyAt_74 rfl rfl rfl (Nat.le_of_ble_eq_true rfl) (jroom (by decide)) rfl (c_charAt (i := 20) (k := 81) (z := 122) (by decide) (by decide) (by decide +kernel) ?_)
              dsimp only [jpush]
              (try simp (disch := omega) only [put_r6, put_w6, put_r7, put_w7, put_r9, put_w9, put_r10, put_w10, put_r11, put_w11, put_r12, put_w12, put_r13, put_w13, put_r14, put_w14, put_r15, put_w15, put_ra, put_r8, put_r0, put_rt, put_wa, u1, u2, hn8])
              refine e_bipush 79 dX12_keyAt_77 (by decide) rfl ?_
              refine e_icmp_ne 82 97 dX12_keyAt_79 (by decide) (by decide) (by decide) rfl (fun _ => ?_) (fun h => absurd h (by decide))
              refine e_ls (ls2 := [(0, _), (1, _), (2, _)]) rfl ?_
              refine sk_16 (kk_17 hT hp hb ?_)
              rw [kx16, if_neg (fun q => by omega)] at h
              exact h
            · skip
              refine e_iinc (lsn := [(3, _), (0, _), (1, _), (2, _)]) 66 dX12_keyAt_63 rfl (by decide) rfl rfl ?_
              refine e_goto 15 dX12_keyAt_66 (by decide) ?_
              refine e_ldcS 17 (i := 20) (by decide) rfl rfl dX12_keyAt_15 rfl ?_
              refine e_iload_n (i := 2) 18 dX12_keyAt_17 rfl rfl rfl ?_
              refine e_iload_n (i := 3) 19 dX12_keyAt_18 rfl rfl rfl ?_
              refine e_iadd 20 dX12_keyAt_19 rfl ?_
              refine e_callF (av := [jI _]) 23 (i := 20) (by decide) mt_yJ_charAt mv_yJ_charAt wd_1410 (by decide) dX12_keyAt_20 rfl rfl rfl (Nat.le_of_ble_eq_true rfl) (jroom (by decide)) rfl (c_charAt (i := 20) (k := 82) (z := 101) (by decide) (by decide) (by decide +kernel) ?_)
              dsimp only [jpush]
              (try simp (disch := omega) only [put_r6, put_w6, put_r7, put_w7, put_r9, put_w9, put_r10, put_w10, put_r11, put_w11, put_r12, put_w12, put_r13, put_w13, put_r14, put_w14, put_r15, put_w15, put_ra, put_r8, put_r0, put_rt, put_wa, u1, u2, hn8])
              refine e_bipush 25 dX12_keyAt_23 (by decide) rfl ?_
              refine e_icmp_eq 28 69 dX12_keyAt_25 (by decide) (by decide) (by decide) rfl (fun h => absurd h (by decide)) (fun _ => ?_)
              refine e_aload_n (i := 0) 29 dX12_keyAt_28 rfl rfl rfl ?_
              refine e_geti (j := 6) 32 fl_12_97 dX12_keyAt_29 at_928 (by decide) rfl rfl (fun r29 => ?_)
              simp (disch := omega) only [put_r6, put_w6, put_r7, put_w7, put_r9, put_w9, put_r10, put_w10, put_r11, put_w11, put_r12, put_w12, put_r13, put_w13, put_r14, put_w14, put_r15, put_w15, put_ra, put_r8, put_r0, put_rt, put_wa, u1, u2, hn8] at r29 ⊢
              refine e_iload_n (i := 3) 33 dX12_keyAt_32 rfl rfl rfl ?_
              refine e_iadd 34 dX12_keyAt_33 rfl ?_
              refine e_aload_n (i := 0) 35 dX12_keyAt_34 rfl rfl rfl ?_
              refine e_geti (j := 7) 38 fl_12_100 dX12_keyAt_35 at_928 (by decide) rfl rfl (fun r35 => ?_)
              simp (disch := omega) only [put_r6, put_w6, put_r7, put_w7, put_r9, put_w9, put_r10, put_w10, put_r11, put_w11, put_r12, put_w12, put_r13, put_w13, put_r14, put_w14, put_r15, put_w15, put_ra, put_r8, put_r0, put_rt, put_wa, u1, u2, hn8] at r35 ⊢
              refine e_icmp_ge 41 69 dX12_keyAt_38 (by omega) (by omega) (by decide) rfl (fun b38 => ?_) (fun b38 => ?_)
              · skip
                refine e_ldcS 71 (i := 20) (by decide) rfl rfl dX12_keyAt_69 rfl ?_
                refine e_iload_n (i := 2) 72 dX12_keyAt_71 rfl rfl rfl ?_
                refine e_iload_n (i := 3) 73 dX12_keyAt_72 rfl rfl rfl ?_
                refine e_iadd 74 dX12_keyAt_73 rfl ?_
                refine e_callF (av := [jI _]) 77 (i := 20) (by decide) mt_yJ_charAt mv_yJ_charAt wd_1410 (by decide) dX12_keyAt_74 rfl rfl rfl (Nat.le_of_ble_eq_true rfl) (jroom (by decide)) rfl (c_charAt (i := 20) (k := 82) (z := 101) (by decide) (by decide) (by decide +kernel) ?_)
                dsimp only [jpush]
                (try simp (disch := omega) only [put_r6, put_w6, put_r7, put_w7, put_r9, put_w9, put_r10, put_w10, put_r11, put_w11, put_r12, put_w12, put_r13, put_w13, put_r14, put_w14, put_r15, put_w15, put_ra, put_r8, put_r0, put_rt, put_wa, u1, u2, hn8])
                refine e_bipush 79 dX12_keyAt_77 (by decide) rfl ?_
                refine e_icmp_ne 82 97 dX12_keyAt_79 (by decide) (by decide) (by decide) rfl (fun _ => ?_) (fun h => absurd h (by decide))
                refine e_ls (ls2 := [(0, _), (1, _), (2, _)]) rfl ?_
                refine sk_16 (kk_17 hT hp hb ?_)
                rw [kx16, if_neg (fun q => by omega)] at h
                exact h
              · skip
                refine e_aload_n (i := 0) 42 dX12_keyAt_41 rfl rfl rfl ?_
                refine e_getr (j := 3) 45 fl_12_21 dX12_keyAt_42 at_928 rfl rfl tp_928_3 rfl ?_
                refine e_aload_n (i := 0) 46 dX12_keyAt_45 rfl rfl rfl ?_
                refine e_geti (j := 6) 49 fl_12_97 dX12_keyAt_46 at_928 (by decide) rfl rfl (fun r46 => ?_)
                simp (disch := omega) only [put_r6, put_w6, put_r7, put_w7, put_r9, put_w9, put_r10, put_w10, put_r11, put_w11, put_r12, put_w12, put_r13, put_w13, put_r14, put_w14, put_r15, put_w15, put_ra, put_r8, put_r0, put_rt, put_wa, u1, u2, hn8] at r46 ⊢
                refine e_iload_n (i := 3) 50 dX12_keyAt_49 rfl rfl rfl ?_
                refine e_iadd 51 dX12_keyAt_50 rfl ?_
                refine e_iald 52 dX12_keyAt_51 ar_931 (by omega) (by omega) rfl (fun r51 => ?_)
                simp (disch := omega) only [put_r6, put_w6, put_r7, put_w7, put_r9, put_w9, put_r10, put_w10, put_r11, put_w11, put_r12, put_w12, put_r13, put_w13, put_r14, put_w14, put_r15, put_w15, put_ra, put_r8, put_r0, put_rt, put_wa, u1, u2, hn8, Int.reduceAdd, Int.add_zero] at r51 ⊢
                refine e_ldcS 54 (i := 20) (by decide) rfl rfl dX12_keyAt_52 rfl ?_
                refine e_iload_n (i := 2) 55 dX12_keyAt_54 rfl rfl rfl ?_
                refine e_iload_n (i := 3) 56 dX12_keyAt_55 rfl rfl rfl ?_
                refine e_iadd 57 dX12_keyAt_56 rfl ?_
                refine e_callF (av := [jI _]) 60 (i := 20) (by decide) mt_yJ_charAt mv_yJ_charAt wd_1410 (by decide) dX12_keyAt_57 rfl rfl rfl (Nat.le_of_ble_eq_true rfl) (jroom (by decide)) rfl (c_charAt (i := 20) (k := 82) (z := 101) (by decide) (by decide) (by decide +kernel) ?_)
                dsimp only [jpush]
                (try simp (disch := omega) only [put_r6, put_w6, put_r7, put_w7, put_r9, put_w9, put_r10, put_w10, put_r11, put_w11, put_r12, put_w12, put_r13, put_w13, put_r14, put_w14, put_r15, put_w15, put_ra, put_r8, put_r0, put_rt, put_wa, u1, u2, hn8])
                refine e_icmp_ne 63 69 dX12_keyAt_60 (by omega) (by decide) (by decide) rfl (fun b60 => ?_) (fun b60 => ?_)
                · skip
                  refine e_ldcS 71 (i := 20) (by decide) rfl rfl dX12_keyAt_69 rfl ?_
                  refine e_iload_n (i := 2) 72 dX12_keyAt_71 rfl rfl rfl ?_
                  refine e_iload_n (i := 3) 73 dX12_keyAt_72 rfl rfl rfl ?_
                  refine e_iadd 74 dX12_keyAt_73 rfl ?_
                  refine e_callF (av := [jI _]) 77 (i := 20) (by decide) mt_yJ_charAt mv_yJ_charAt wd_1410 (by decide) dX12_keyAt_74 rfl rfl rfl (Nat.le_of_ble_eq_true rfl) (jroom (by decide)) rfl (c_charAt (i := 20) (k := 82) (z := 101) (by decide) (by decide) (by decide +kernel) ?_)
                  dsimp only [jpush]
                  (try simp (disch := omega) only [put_r6, put_w6, put_r7, put_w7, put_r9, put_w9, put_r10, put_w10, put_r11, put_w11, put_r12, put_w12, put_r13, put_w13, put_r14, put_w14, put_r15, put_w15, put_ra, put_r8, put_r0, put_rt, put_wa, u1, u2, hn8])
                  refine e_bipush 79 dX12_keyAt_77 (by decide) rfl ?_
                  refine e_icmp_ne 82 97 dX12_keyAt_79 (by decide) (by decide) (by decide) rfl (fun _ => ?_) (fun h => absurd h (by decide))
                  refine e_ls (ls2 := [(0, _), (1, _), (2, _)]) rfl ?_
                  refine sk_16 (kk_17 hT hp hb ?_)
                  rw [kx16, if_neg (fun q => by omega)] at h
                  exact h
                · skip
                  refine e_iinc (lsn := [(3, _), (0, _), (1, _), (2, _)]) 66 dX12_keyAt_63 rfl (by decide) rfl rfl ?_
                  refine e_goto 15 dX12_keyAt_66 (by decide) ?_
                  refine e_ldcS 17 (i := 20) (by decide) rfl rfl dX12_keyAt_15 rfl ?_
                  refine e_iload_n (i := 2) 18 dX12_keyAt_17 rfl rfl rfl ?_
                  refine e_iload_n (i := 3) 19 dX12_keyAt_18 rfl rfl rfl ?_
                  refine e_iadd 20 dX12_keyAt_19 rfl ?_
                  refine e_callF (av := [jI _]) 23 (i := 20) (by decide) mt_yJ_charAt mv_yJ_charAt wd_1410 (by decide) dX12_keyAt_20 rfl rfl rfl (Nat.le_of_ble_eq_true rfl) (jroom (by decide)) rfl (c_charAt (i := 20) (k := 83) (z := 32) (by decide) (by decide) (by decide +kernel) ?_)
                  dsimp only [jpush]
                  (try simp (disch := omega) only [put_r6, put_w6, put_r7, put_w7, put_r9, put_w9, put_r10, put_w10, put_r11, put_w11, put_r12, put_w12, put_r13, put_w13, put_r14, put_w14, put_r15, put_w15, put_ra, put_r8, put_r0, put_rt, put_wa, u1, u2, hn8])
                  refine e_bipush 25 dX12_keyAt_23 (by decide) rfl ?_
                  refine e_icmp_eq 28 69 dX12_keyAt_25 (by decide) (by decide) (by decide) rfl (fun _ => ?_) (fun h => absurd h (by decide))
                  refine e_ldcS 71 (i := 20) (by decide) rfl rfl dX12_keyAt_69 rfl ?_
                  refine e_iload_n (i := 2) 72 dX12_keyAt_71 rfl rfl rfl ?_
                  refine e_iload_n (i := 3) 73 dX12_keyAt_72 rfl rfl rfl ?_
                  refine e_iadd 74 dX12_keyAt_73 rfl ?_
                  refine e_callF (av := [jI _]) 77 (i := 20) (by decide) mt_yJ_charAt mv_yJ_charAt wd_1410 (by decide) dX12_keyAt_74 rfl rfl rfl (Nat.le_of_ble_eq_true rfl) (jroom (by decide)) rfl (c_charAt (i := 20) (k := 83) (z := 32) (by decide) (by decide) (by decide +kernel) ?_)
                  dsimp only [jpush]
                  (try simp (disch := omega) only [put_r6, put_w6, put_r7, put_w7, put_r9, put_w9, put_r10, put_w10, put_r11, put_w11, put_r12, put_w12, put_r13, put_w13, put_r14, put_w14, put_r15, put_w15, put_ra, put_r8, put_r0, put_rt, put_wa, u1, u2, hn8])
                  refine e_bipush 79 dX12_keyAt_77 (by decide) rfl ?_
                  refine e_icmp_ne 82 97 dX12_keyAt_79 (by decide) (by decide) (by decide) rfl (fun h => absurd h (by decide)) (fun _ => ?_)
                  refine e_aload_n (i := 0) 83 dX12_keyAt_82 rfl rfl rfl ?_
                  refine e_geti (j := 6) 86 fl_12_97 dX12_keyAt_83 at_928 (by decide) rfl rfl (fun r83 => ?_)
                  simp (disch := omega) only [put_r6, put_w6, put_r7, put_w7, put_r9, put_w9, put_r10, put_w10, put_r11, put_w11, put_r12, put_w12, put_r13, put_w13, put_r14, put_w14, put_r15, put_w15, put_ra, put_r8, put_r0, put_rt, put_wa, u1, u2, hn8] at r83 ⊢
                  refine e_iload_n (i := 3) 87 dX12_keyAt_86 rfl rfl rfl ?_
                  refine e_iadd 88 dX12_keyAt_87 rfl ?_
                  refine e_aload_n (i := 0) 89 dX12_keyAt_88 rfl rfl rfl ?_
                  refine e_geti (j := 7) 92 fl_12_100 dX12_keyAt_89 at_928 (by decide) rfl rfl (fun r89 => ?_)
                  simp (disch := omega) only [put_r6, put_w6, put_r7, put_w7, put_r9, put_w9, put_r10, put_w10, put_r11, put_w11, put_r12, put_w12, put_r13, put_w13, put_r14, put_w14, put_r15, put_w15, put_ra, put_r8, put_r0, put_rt, put_wa, u1, u2, hn8] at r89 ⊢
                  refine e_icmp_ne 95 97 dX12_keyAt_92 (by omega) (by omega) (by decide) rfl (fun b92 => ?_) (fun b92 => ?_)
                  · skip
                    refine e_ls (ls2 := [(0, _), (1, _), (2, _)]) rfl ?_
                    refine sk_16 (kk_17 hT hp hb ?_)
                    rw [kx16, if_neg (fun q => by omega)] at h
                    exact h
                  · skip
                    refine e_iload_n (i := 1) 96 dX12_keyAt_95 rfl rfl rfl ?_
                    refine e_iret dX12_keyAt_96 ?_
                    rw [kx16, if_pos (by omega)] at h
                    exact h

theorem sk_15 {X : jX} {Y : jM} {Q : Int → jM → Prop} (h : jE X yX12_keyAt cX12_keyAt 4 (some .int) 5 Q Y 4 [(0, jR 928), (1, jI 16), (2, jI 79)] []) : jE X yX12_keyAt cX12_keyAt 4 (some .int) 5 Q Y 97 [(0, jR 928), (1, jI 15), (2, jI 74)] [] := by
  refine e_ldcS 99 (i := 20) (by decide) rfl rfl dX12_keyAt_97 rfl ?_
  refine e_iload_n (i := 2) 100 dX12_keyAt_99 rfl rfl rfl ?_
  refine e_callF (av := [jI _]) 103 (i := 20) (by decide) mt_yJ_charAt mv_yJ_charAt wd_1410 (by decide) dX12_keyAt_100 rfl rfl rfl (Nat.le_of_ble_eq_true rfl) (jroom (by decide)) rfl (c_charAt (i := 20) (k := 74) (z := 107) (by decide) (by decide) (by decide +kernel) ?_)
  dsimp only [jpush]
  refine e_bipush 105 dX12_keyAt_103 (by decide) rfl ?_
  refine e_icmp_eq 108 114 dX12_keyAt_105 (by decide) (by decide) (by decide) rfl (fun h => absurd h (by decide)) (fun _ => ?_)
  refine e_iinc (lsn := [(2, _), (0, _), (1, _)]) 111 dX12_keyAt_108 rfl (by decide) rfl rfl ?_
  refine e_goto 97 dX12_keyAt_111 (by decide) ?_
  refine e_ldcS 99 (i := 20) (by decide) rfl rfl dX12_keyAt_97 rfl ?_
  refine e_iload_n (i := 2) 100 dX12_keyAt_99 rfl rfl rfl ?_
  refine e_callF (av := [jI _]) 103 (i := 20) (by decide) mt_yJ_charAt mv_yJ_charAt wd_1410 (by decide) dX12_keyAt_100 rfl rfl rfl (Nat.le_of_ble_eq_true rfl) (jroom (by decide)) rfl (c_charAt (i := 20) (k := 75) (z := 105) (by decide) (by decide) (by decide +kernel) ?_)
  dsimp only [jpush]
  refine e_bipush 105 dX12_keyAt_103 (by decide) rfl ?_
  refine e_icmp_eq 108 114 dX12_keyAt_105 (by decide) (by decide) (by decide) rfl (fun h => absurd h (by decide)) (fun _ => ?_)
  refine e_iinc (lsn := [(2, _), (0, _), (1, _)]) 111 dX12_keyAt_108 rfl (by decide) rfl rfl ?_
  refine e_goto 97 dX12_keyAt_111 (by decide) ?_
  refine e_ldcS 99 (i := 20) (by decide) rfl rfl dX12_keyAt_97 rfl ?_
  refine e_iload_n (i := 2) 100 dX12_keyAt_99 rfl rfl rfl ?_
  refine e_callF (av := [jI _]) 103 (i := 20) (by decide) mt_yJ_charAt mv_yJ_charAt wd_1410 (by decide) dX12_keyAt_100 rfl rfl rfl (Nat.le_of_ble_eq_true rfl) (jroom (by decide)) rfl (c_charAt (i := 20) (k := 76) (z := 110) (by decide) (by decide) (by decide +kernel) ?_)
  dsimp only [jpush]
  refine e_bipush 105 dX12_keyAt_103 (by decide) rfl ?_
  refine e_icmp_eq 108 114 dX12_keyAt_105 (by decide) (by decide) (by decide) rfl (fun h => absurd h (by decide)) (fun _ => ?_)
  refine e_iinc (lsn := [(2, _), (0, _), (1, _)]) 111 dX12_keyAt_108 rfl (by decide) rfl rfl ?_
  refine e_goto 97 dX12_keyAt_111 (by decide) ?_
  refine e_ldcS 99 (i := 20) (by decide) rfl rfl dX12_keyAt_97 rfl ?_
  refine e_iload_n (i := 2) 100 dX12_keyAt_99 rfl rfl rfl ?_
  refine e_callF (av := [jI _]) 103 (i := 20) (by decide) mt_yJ_charAt mv_yJ_charAt wd_1410 (by decide) dX12_keyAt_100 rfl rfl rfl (Nat.le_of_ble_eq_true rfl) (jroom (by decide)) rfl (c_charAt (i := 20) (k := 77) (z := 100) (by decide) (by decide) (by decide +kernel) ?_)
  dsimp only [jpush]
  refine e_bipush 105 dX12_keyAt_103 (by decide) rfl ?_
  refine e_icmp_eq 108 114 dX12_keyAt_105 (by decide) (by decide) (by decide) rfl (fun h => absurd h (by decide)) (fun _ => ?_)
  refine e_iinc (lsn := [(2, _), (0, _), (1, _)]) 111 dX12_keyAt_108 rfl (by decide) rfl rfl ?_
  refine e_goto 97 dX12_keyAt_111 (by decide) ?_
  refine e_ldcS 99 (i := 20) (by decide) rfl rfl dX12_keyAt_97 rfl ?_
  refine e_iload_n (i := 2) 100 dX12_keyAt_99 rfl rfl rfl ?_
  refine e_callF (av := [jI _]) 103 (i := 20) (by decide) mt_yJ_charAt mv_yJ_charAt wd_1410 (by decide) dX12_keyAt_100 rfl rfl rfl (Nat.le_of_ble_eq_true rfl) (jroom (by decide)) rfl (c_charAt (i := 20) (k := 78) (z := 32) (by decide) (by decide) (by decide +kernel) ?_)
  dsimp only [jpush]
  refine e_bipush 105 dX12_keyAt_103 (by decide) rfl ?_
  refine e_icmp_eq 108 114 dX12_keyAt_105 (by decide) (by decide) (by decide) rfl (fun _ => ?_) (fun h => absurd h (by decide))
  refine e_iinc (lsn := [(2, _), (0, _), (1, _)]) 117 dX12_keyAt_114 rfl (by decide) rfl rfl ?_
  refine e_iinc (lsn := [(1, _), (2, _), (0, _)]) 120 dX12_keyAt_117 rfl (by decide) rfl rfl ?_
  refine e_goto 4 dX12_keyAt_120 (by decide) ?_
  refine e_ls (ls2 := [(0, _), (1, _), (2, _)]) rfl ?_
  exact h

theorem kk_15 {X : jX} {M : jM} {n : Int} {Q : Int → jM → Prop} (hT : RT M n) {s : PS} (hp : 0 ≤ s.1) (hb : s.1 ≤ s.2.1 ∧ s.2.1 ≤ n) (h : Q (kx15 (M 931) s.1 s.2.1) (put M s)) : jE X yX12_keyAt cX12_keyAt 4 (some .int) 5 Q (put M s) 4 [(0, jR 928), (1, jI 15), (2, jI 74)] [] := by
  have hn8 := hT.1
  have hn := hT.2.1
  refine e_iload_n (i := 2) 5 dX12_keyAt_4 rfl rfl rfl ?_
  refine e_ldcS 7 (i := 20) (by decide) rfl rfl dX12_keyAt_5 rfl ?_
  refine e_callF (av := []) 10 (i := 20) (by decide) mt_yJ_len mv_yJ_len wd_1409 (by decide) dX12_keyAt_7 rfl rfl rfl (Nat.le_of_ble_eq_true rfl) (jroom (by decide)) rfl (c_strlen (i := 20) (z := 99) (by decide) (by decide) ?_)
  dsimp only [jpush]
  (try simp (disch := omega) only [put_r6, put_w6, put_r7, put_w7, put_r9, put_w9, put_r10, put_w10, put_r11, put_w11, put_r12, put_w12, put_r13, put_w13, put_r14, put_w14, put_r15, put_w15, put_ra, put_r8, put_r0, put_rt, put_wa, u1, u2, hn8])
  refine e_icmp_ge 13 123 dX12_keyAt_10 (by decide) (by decide) (by decide) rfl (fun h => absurd h (by decide)) (fun _ => ?_)
  refine e_iconst 14 dX12_keyAt_13 rfl ?_
  refine e_istore_n (i := 3) (lsn := [(3, _), (0, _), (1, _), (2, _)]) 15 dX12_keyAt_14 rfl (by decide) rfl rfl ?_
  refine e_ldcS 17 (i := 20) (by decide) rfl rfl dX12_keyAt_15 rfl ?_
  refine e_iload_n (i := 2) 18 dX12_keyAt_17 rfl rfl rfl ?_
  refine e_iload_n (i := 3) 19 dX12_keyAt_18 rfl rfl rfl ?_
  refine e_iadd 20 dX12_keyAt_19 rfl ?_
  refine e_callF (av := [jI _]) 23 (i := 20) (by decide) mt_yJ_charAt mv_yJ_charAt wd_1410 (by decide) dX12_keyAt_20 rfl rfl rfl (Nat.le_of_ble_eq_true rfl) (jroom (by decide)) rfl (c_charAt (i := 20) (k := 74) (z := 107) (by decide) (by decide) (by decide +kernel) ?_)
  dsimp only [jpush]
  (try simp (disch := omega) only [put_r6, put_w6, put_r7, put_w7, put_r9, put_w9, put_r10, put_w10, put_r11, put_w11, put_r12, put_w12, put_r13, put_w13, put_r14, put_w14, put_r15, put_w15, put_ra, put_r8, put_r0, put_rt, put_wa, u1, u2, hn8])
  refine e_bipush 25 dX12_keyAt_23 (by decide) rfl ?_
  refine e_icmp_eq 28 69 dX12_keyAt_25 (by decide) (by decide) (by decide) rfl (fun h => absurd h (by decide)) (fun _ => ?_)
  refine e_aload_n (i := 0) 29 dX12_keyAt_28 rfl rfl rfl ?_
  refine e_geti (j := 6) 32 fl_12_97 dX12_keyAt_29 at_928 (by decide) rfl rfl (fun r29 => ?_)
  simp (disch := omega) only [put_r6, put_w6, put_r7, put_w7, put_r9, put_w9, put_r10, put_w10, put_r11, put_w11, put_r12, put_w12, put_r13, put_w13, put_r14, put_w14, put_r15, put_w15, put_ra, put_r8, put_r0, put_rt, put_wa, u1, u2, hn8] at r29 ⊢
  refine e_iload_n (i := 3) 33 dX12_keyAt_32 rfl rfl rfl ?_
  refine e_iadd 34 dX12_keyAt_33 rfl ?_
  refine e_aload_n (i := 0) 35 dX12_keyAt_34 rfl rfl rfl ?_
  refine e_geti (j := 7) 38 fl_12_100 dX12_keyAt_35 at_928 (by decide) rfl rfl (fun r35 => ?_)
  simp (disch := omega) only [put_r6, put_w6, put_r7, put_w7, put_r9, put_w9, put_r10, put_w10, put_r11, put_w11, put_r12, put_w12, put_r13, put_w13, put_r14, put_w14, put_r15, put_w15, put_ra, put_r8, put_r0, put_rt, put_wa, u1, u2, hn8] at r35 ⊢
  refine e_icmp_ge 41 69 dX12_keyAt_38 (by omega) (by omega) (by decide) rfl (fun b38 => ?_) (fun b38 => ?_)
  · skip
    refine e_ldcS 71 (i := 20) (by decide) rfl rfl dX12_keyAt_69 rfl ?_
    refine e_iload_n (i := 2) 72 dX12_keyAt_71 rfl rfl rfl ?_
    refine e_iload_n (i := 3) 73 dX12_keyAt_72 rfl rfl rfl ?_
    refine e_iadd 74 dX12_keyAt_73 rfl ?_
    refine e_callF (av := [jI _]) 77 (i := 20) (by decide) mt_yJ_charAt mv_yJ_charAt wd_1410 (by decide) dX12_keyAt_74 rfl rfl rfl (Nat.le_of_ble_eq_true rfl) (jroom (by decide)) rfl (c_charAt (i := 20) (k := 74) (z := 107) (by decide) (by decide) (by decide +kernel) ?_)
    dsimp only [jpush]
    (try simp (disch := omega) only [put_r6, put_w6, put_r7, put_w7, put_r9, put_w9, put_r10, put_w10, put_r11, put_w11, put_r12, put_w12, put_r13, put_w13, put_r14, put_w14, put_r15, put_w15, put_ra, put_r8, put_r0, put_rt, put_wa, u1, u2, hn8])
    refine e_bipush 79 dX12_keyAt_77 (by decide) rfl ?_
    refine e_icmp_ne 82 97 dX12_keyAt_79 (by decide) (by decide) (by decide) rfl (fun _ => ?_) (fun h => absurd h (by decide))
    refine e_ls (ls2 := [(0, _), (1, _), (2, _)]) rfl ?_
    refine sk_15 (kk_16 hT hp hb ?_)
    rw [kx15, if_neg (fun q => by omega)] at h
    exact h
  · skip
    refine e_aload_n (i := 0) 42 dX12_keyAt_41 rfl rfl rfl ?_
    refine e_getr (j := 3) 45 fl_12_21 dX12_keyAt_42 at_928 rfl rfl tp_928_3 rfl ?_
    refine e_aload_n (i := 0) 46 dX12_keyAt_45 rfl rfl rfl ?_
    refine e_geti (j := 6) 49 fl_12_97 dX12_keyAt_46 at_928 (by decide) rfl rfl (fun r46 => ?_)
    simp (disch := omega) only [put_r6, put_w6, put_r7, put_w7, put_r9, put_w9, put_r10, put_w10, put_r11, put_w11, put_r12, put_w12, put_r13, put_w13, put_r14, put_w14, put_r15, put_w15, put_ra, put_r8, put_r0, put_rt, put_wa, u1, u2, hn8] at r46 ⊢
    refine e_iload_n (i := 3) 50 dX12_keyAt_49 rfl rfl rfl ?_
    refine e_iadd 51 dX12_keyAt_50 rfl ?_
    refine e_iald 52 dX12_keyAt_51 ar_931 (by omega) (by omega) rfl (fun r51 => ?_)
    simp (disch := omega) only [put_r6, put_w6, put_r7, put_w7, put_r9, put_w9, put_r10, put_w10, put_r11, put_w11, put_r12, put_w12, put_r13, put_w13, put_r14, put_w14, put_r15, put_w15, put_ra, put_r8, put_r0, put_rt, put_wa, u1, u2, hn8, Int.reduceAdd, Int.add_zero] at r51 ⊢
    refine e_ldcS 54 (i := 20) (by decide) rfl rfl dX12_keyAt_52 rfl ?_
    refine e_iload_n (i := 2) 55 dX12_keyAt_54 rfl rfl rfl ?_
    refine e_iload_n (i := 3) 56 dX12_keyAt_55 rfl rfl rfl ?_
    refine e_iadd 57 dX12_keyAt_56 rfl ?_
    refine e_callF (av := [jI _]) 60 (i := 20) (by decide) mt_yJ_charAt mv_yJ_charAt wd_1410 (by decide) dX12_keyAt_57 rfl rfl rfl (Nat.le_of_ble_eq_true rfl) (jroom (by decide)) rfl (c_charAt (i := 20) (k := 74) (z := 107) (by decide) (by decide) (by decide +kernel) ?_)
    dsimp only [jpush]
    (try simp (disch := omega) only [put_r6, put_w6, put_r7, put_w7, put_r9, put_w9, put_r10, put_w10, put_r11, put_w11, put_r12, put_w12, put_r13, put_w13, put_r14, put_w14, put_r15, put_w15, put_ra, put_r8, put_r0, put_rt, put_wa, u1, u2, hn8])
    refine e_icmp_ne 63 69 dX12_keyAt_60 (by omega) (by decide) (by decide) rfl (fun b60 => ?_) (fun b60 => ?_)
    · skip
      refine e_ldcS 71 (i := 20) (by decide) rfl rfl dX12_keyAt_69 rfl ?_
      refine e_iload_n (i := 2) 72 dX12_keyAt_71 rfl rfl rfl ?_
      refine e_iload_n (i := 3) 73 dX12_keyAt_72 rfl rfl rfl ?_
      refine e_iadd 74 dX12_keyAt_73 rfl ?_
      refine e_callF (av := [jI _]) 77 (i := 20) (by decide) mt_yJ_charAt mv_yJ_charAt wd_1410 (by decide) dX12_keyAt_74 rfl rfl rfl (Nat.le_of_ble_eq_true rfl) (jroom (by decide)) rfl (c_charAt (i := 20) (k := 74) (z := 107) (by decide) (by decide) (by decide +kernel) ?_)
      dsimp only [jpush]
      (try simp (disch := omega) only [put_r6, put_w6, put_r7, put_w7, put_r9, put_w9, put_r10, put_w10, put_r11, put_w11, put_r12, put_w12, put_r13, put_w13, put_r14, put_w14, put_r15, put_w15, put_ra, put_r8, put_r0, put_rt, put_wa, u1, u2, hn8])
      refine e_bipush 79 dX12_keyAt_77 (by decide) rfl ?_
      refine e_icmp_ne 82 97 dX12_keyAt_79 (by decide) (by decide) (by decide) rfl (fun _ => ?_) (fun h => absurd h (by decide))
      refine e_ls (ls2 := [(0, _), (1, _), (2, _)]) rfl ?_
      refine sk_15 (kk_16 hT hp hb ?_)
      rw [kx15, if_neg (fun q => by omega)] at h
      exact h
    · skip
      refine e_iinc (lsn := [(3, _), (0, _), (1, _), (2, _)]) 66 dX12_keyAt_63 rfl (by decide) rfl rfl ?_
      refine e_goto 15 dX12_keyAt_66 (by decide) ?_
      refine e_ldcS 17 (i := 20) (by decide) rfl rfl dX12_keyAt_15 rfl ?_
      refine e_iload_n (i := 2) 18 dX12_keyAt_17 rfl rfl rfl ?_
      refine e_iload_n (i := 3) 19 dX12_keyAt_18 rfl rfl rfl ?_
      refine e_iadd 20 dX12_keyAt_19 rfl ?_
      refine e_callF (av := [jI _]) 23 (i := 20) (by decide) mt_yJ_charAt mv_yJ_charAt wd_1410 (by decide) dX12_keyAt_20 rfl rfl rfl (Nat.le_of_ble_eq_true rfl) (jroom (by decide)) rfl (c_charAt (i := 20) (k := 75) (z := 105) (by decide) (by decide) (by decide +kernel) ?_)
      dsimp only [jpush]
      (try simp (disch := omega) only [put_r6, put_w6, put_r7, put_w7, put_r9, put_w9, put_r10, put_w10, put_r11, put_w11, put_r12, put_w12, put_r13, put_w13, put_r14, put_w14, put_r15, put_w15, put_ra, put_r8, put_r0, put_rt, put_wa, u1, u2, hn8])
      refine e_bipush 25 dX12_keyAt_23 (by decide) rfl ?_
      refine e_icmp_eq 28 69 dX12_keyAt_25 (by decide) (by decide) (by decide) rfl (fun h => absurd h (by decide)) (fun _ => ?_)
      refine e_aload_n (i := 0) 29 dX12_keyAt_28 rfl rfl rfl ?_
      refine e_geti (j := 6) 32 fl_12_97 dX12_keyAt_29 at_928 (by decide) rfl rfl (fun r29 => ?_)
      simp (disch := omega) only [put_r6, put_w6, put_r7, put_w7, put_r9, put_w9, put_r10, put_w10, put_r11, put_w11, put_r12, put_w12, put_r13, put_w13, put_r14, put_w14, put_r15, put_w15, put_ra, put_r8, put_r0, put_rt, put_wa, u1, u2, hn8] at r29 ⊢
      refine e_iload_n (i := 3) 33 dX12_keyAt_32 rfl rfl rfl ?_
      refine e_iadd 34 dX12_keyAt_33 rfl ?_
      refine e_aload_n (i := 0) 35 dX12_keyAt_34 rfl rfl rfl ?_
      refine e_geti (j := 7) 38 fl_12_100 dX12_keyAt_35 at_928 (by decide) rfl rfl (fun r35 => ?_)
      simp (disch := omega) only [put_r6, put_w6, put_r7, put_w7, put_r9, put_w9, put_r10, put_w10, put_r11, put_w11, put_r12, put_w12, put_r13, put_w13, put_r14, put_w14, put_r15, put_w15, put_ra, put_r8, put_r0, put_rt, put_wa, u1, u2, hn8] at r35 ⊢
      refine e_icmp_ge 41 69 dX12_keyAt_38 (by omega) (by omega) (by decide) rfl (fun b38 => ?_) (fun b38 => ?_)
      · skip
        refine e_ldcS 71 (i := 20) (by decide) rfl rfl dX12_keyAt_69 rfl ?_
        refine e_iload_n (i := 2) 72 dX12_keyAt_71 rfl rfl rfl ?_
        refine e_iload_n (i := 3) 73 dX12_keyAt_72 rfl rfl rfl ?_
        refine e_iadd 74 dX12_keyAt_73 rfl ?_
        refine e_callF (av := [jI _]) 77 (i := 20) (by decide) mt_yJ_charAt mv_yJ_charAt wd_1410 (by decide) dX12_keyAt_74 rfl rfl rfl (Nat.le_of_ble_eq_true rfl) (jroom (by decide)) rfl (c_charAt (i := 20) (k := 75) (z := 105) (by decide) (by decide) (by decide +kernel) ?_)
        dsimp only [jpush]
        (try simp (disch := omega) only [put_r6, put_w6, put_r7, put_w7, put_r9, put_w9, put_r10, put_w10, put_r11, put_w11, put_r12, put_w12, put_r13, put_w13, put_r14, put_w14, put_r15, put_w15, put_ra, put_r8, put_r0, put_rt, put_wa, u1, u2, hn8])
        refine e_bipush 79 dX12_keyAt_77 (by decide) rfl ?_
        refine e_icmp_ne 82 97 dX12_keyAt_79 (by decide) (by decide) (by decide) rfl (fun _ => ?_) (fun h => absurd h (by decide))
        refine e_ls (ls2 := [(0, _), (1, _), (2, _)]) rfl ?_
        refine sk_15 (kk_16 hT hp hb ?_)
        rw [kx15, if_neg (fun q => by omega)] at h
        exact h
      · skip
        refine e_aload_n (i := 0) 42 dX12_keyAt_41 rfl rfl rfl ?_
        refine e_getr (j := 3) 45 fl_12_21 dX12_keyAt_42 at_928 rfl rfl tp_928_3 rfl ?_
        refine e_aload_n (i := 0) 46 dX12_keyAt_45 rfl rfl rfl ?_
        refine e_geti (j := 6) 49 fl_12_97 dX12_keyAt_46 at_928 (by decide) rfl rfl (fun r46 => ?_)
        simp (disch := omega) only [put_r6, put_w6, put_r7, put_w7, put_r9, put_w9, put_r10, put_w10, put_r11, put_w11, put_r12, put_w12, put_r13, put_w13, put_r14, put_w14, put_r15, put_w15, put_ra, put_r8, put_r0, put_rt, put_wa, u1, u2, hn8] at r46 ⊢
        refine e_iload_n (i := 3) 50 dX12_keyAt_49 rfl rfl rfl ?_
        refine e_iadd 51 dX12_keyAt_50 rfl ?_
        refine e_iald 52 dX12_keyAt_51 ar_931 (by omega) (by omega) rfl (fun r51 => ?_)
        simp (disch := omega) only [put_r6, put_w6, put_r7, put_w7, put_r9, put_w9, put_r10, put_w10, put_r11, put_w11, put_r12, put_w12, put_r13, put_w13, put_r14, put_w14, put_r15, put_w15, put_ra, put_r8, put_r0, put_rt, put_wa, u1, u2, hn8, Int.reduceAdd, Int.add_zero] at r51 ⊢
        refine e_ldcS 54 (i := 20) (by decide) rfl rfl dX12_keyAt_52 rfl ?_
        refine e_iload_n (i := 2) 55 dX12_keyAt_54 rfl rfl rfl ?_
        refine e_iload_n (i := 3) 56 dX12_keyAt_55 rfl rfl rfl ?_
        refine e_iadd 57 dX12_keyAt_56 rfl ?_
        refine e_callF (av := [jI _]) 60 (i := 20) (by decide) mt_yJ_charAt mv_yJ_charAt wd_1410 (by decide) dX12_keyAt_57 rfl rfl rfl (Nat.le_of_ble_eq_true rfl) (jroom (by decide)) rfl (c_charAt (i := 20) (k := 75) (z := 105) (by decide) (by decide) (by decide +kernel) ?_)
        dsimp only [jpush]
        (try simp (disch := omega) only [put_r6, put_w6, put_r7, put_w7, put_r9, put_w9, put_r10, put_w10, put_r11, put_w11, put_r12, put_w12, put_r13, put_w13, put_r14, put_w14, put_r15, put_w15, put_ra, put_r8, put_r0, put_rt, put_wa, u1, u2, hn8])
        refine e_icmp_ne 63 69 dX12_keyAt_60 (by omega) (by decide) (by decide) rfl (fun b60 => ?_) (fun b60 => ?_)
        · skip
          refine e_ldcS 71 (i := 20) (by decide) rfl rfl dX12_keyAt_69 rfl ?_
          refine e_iload_n (i := 2) 72 dX12_keyAt_71 rfl rfl rfl ?_
          refine e_iload_n (i := 3) 73 dX12_keyAt_72 rfl rfl rfl ?_
          refine e_iadd 74 dX12_keyAt_73 rfl ?_
          refine e_callF (av := [jI _]) 77 (i := 20) (by decide) mt_yJ_charAt mv_yJ_charAt wd_1410 (by decide) dX12_keyAt_74 rfl rfl rfl (Nat.le_of_ble_eq_true rfl) (jroom (by decide)) rfl (c_charAt (i := 20) (k := 75) (z := 105) (by decide) (by decide) (by decide +kernel) ?_)
          dsimp only [jpush]
          (try simp (disch := omega) only [put_r6, put_w6, put_r7, put_w7, put_r9, put_w9, put_r10, put_w10, put_r11, put_w11, put_r12, put_w12, put_r13, put_w13, put_r14, put_w14, put_r15, put_w15, put_ra, put_r8, put_r0, put_rt, put_wa, u1, u2, hn8])
          refine e_bipush 79 dX12_keyAt_77 (by decide) rfl ?_
          refine e_icmp_ne 82 97 dX12_keyAt_79 (by decide) (by decide) (by decide) rfl (fun _ => ?_) (fun h => absurd h (by decide))
          refine e_ls (ls2 := [(0, _), (1, _), (2, _)]) rfl ?_
          refine sk_15 (kk_16 hT hp hb ?_)
          rw [kx15, if_neg (fun q => by omega)] at h
          exact h
        · skip
          refine e_iinc (lsn := [(3, _), (0, _), (1, _), (2, _)]) 66 dX12_keyAt_63 rfl (by decide) rfl rfl ?_
          refine e_goto 15 dX12_keyAt_66 (by decide) ?_
          refine e_ldcS 17 (i := 20) (by decide) rfl rfl dX12_keyAt_15 rfl ?_
          refine e_iload_n (i := 2) 18 dX12_keyAt_17 rfl rfl rfl ?_
          refine e_iload_n (i := 3) 19 dX12_keyAt_18 rfl rfl rfl ?_
          refine e_iadd 20 dX12_keyAt_19 rfl ?_
          refine e_callF (av := [jI _]) 23 (i := 20) (by decide) mt_yJ_charAt mv_yJ_charAt wd_1410 (by decide) dX12_keyAt_20 rfl rfl rfl (Nat.le_of_ble_eq_true rfl) (jroom (by decide)) rfl (c_charAt (i := 20) (k := 76) (z := 110) (by decide) (by decide) (by decide +kernel) ?_)
          dsimp only [jpush]
          (try simp (disch := omega) only [put_r6, put_w6, put_r7, put_w7, put_r9, put_w9, put_r10, put_w10, put_r11, put_w11, put_r12, put_w12, put_r13, put_w13, put_r14, put_w14, put_r15, put_w15, put_ra, put_r8, put_r0, put_rt, put_wa, u1, u2, hn8])
          refine e_bipush 25 dX12_keyAt_23 (by decide) rfl ?_
          refine e_icmp_eq 28 69 dX12_keyAt_25 (by decide) (by decide) (by decide) rfl (fun h => absurd h (by decide)) (fun _ => ?_)
          refine e_aload_n (i := 0) 29 dX12_keyAt_28 rfl rfl rfl ?_
          refine e_geti (j := 6) 32 fl_12_97 dX12_keyAt_29 at_928 (by decide) rfl rfl (fun r29 => ?_)
          simp (disch := omega) only [put_r6, put_w6, put_r7, put_w7, put_r9, put_w9, put_r10, put_w10, put_r11, put_w11, put_r12, put_w12, put_r13, put_w13, put_r14, put_w14, put_r15, put_w15, put_ra, put_r8, put_r0, put_rt, put_wa, u1, u2, hn8] at r29 ⊢
          refine e_iload_n (i := 3) 33 dX12_keyAt_32 rfl rfl rfl ?_
          refine e_iadd 34 dX12_keyAt_33 rfl ?_
          refine e_aload_n (i := 0) 35 dX12_keyAt_34 rfl rfl rfl ?_
          refine e_geti (j := 7) 38 fl_12_100 dX12_keyAt_35 at_928 (by decide) rfl rfl (fun r35 => ?_)
          simp (disch := omega) only [put_r6, put_w6, put_r7, put_w7, put_r9, put_w9, put_r10, put_w10, put_r11, put_w11, put_r12, put_w12, put_r13, put_w13, put_r14, put_w14, put_r15, put_w15, put_ra, put_r8, put_r0, put_rt, put_wa, u1, u2, hn8] at r35 ⊢
          refine e_icmp_ge 41 69 dX12_keyAt_38 (by omega) (by omega) (by decide) rfl (fun b38 => ?_) (fun b38 => ?_)
          · skip
            refine e_ldcS 71 (i := 20) (by decide) rfl rfl dX12_keyAt_69 rfl ?_
            refine e_iload_n (i := 2) 72 dX12_keyAt_71 rfl rfl rfl ?_
            refine e_iload_n (i := 3) 73 dX12_keyAt_72 rfl rfl rfl ?_
            refine e_iadd 74 dX12_keyAt_73 rfl ?_
            refine e_callF (av := [jI _]) 77 (i := 20) (by decide) mt_yJ_charAt mv_yJ_charAt wd_1410 (by decide) dX12_keyAt_74 rfl rfl rfl (Nat.le_of_ble_eq_true rfl) (jroom (by decide)) rfl (c_charAt (i := 20) (k := 76) (z := 110) (by decide) (by decide) (by decide +kernel) ?_)
            dsimp only [jpush]
            (try simp (disch := omega) only [put_r6, put_w6, put_r7, put_w7, put_r9, put_w9, put_r10, put_w10, put_r11, put_w11, put_r12, put_w12, put_r13, put_w13, put_r14, put_w14, put_r15, put_w15, put_ra, put_r8, put_r0, put_rt, put_wa, u1, u2, hn8])
            refine e_bipush 79 dX12_keyAt_77 (by decide) rfl ?_
            refine e_icmp_ne 82 97 dX12_keyAt_79 (by decide) (by decide) (by decide) rfl (fun _ => ?_) (fun h => absurd h (by decide))
            refine e_ls (ls2 := [(0, _), (1, _), (2, _)]) rfl ?_
            refine sk_15 (kk_16 hT hp hb ?_)
            rw [kx15, if_neg (fun q => by omega)] at h
            exact h
          · skip
            refine e_aload_n (i := 0) 42 dX12_keyAt_41 rfl rfl rfl ?_
            refine e_getr (j := 3) 45 fl_12_21 dX12_keyAt_42 at_928 rfl rfl tp_928_3 rfl ?_
            refine e_aload_n (i := 0) 46 dX12_keyAt_45 rfl rfl rfl ?_
            refine e_geti (j := 6) 49 fl_12_97 dX12_keyAt_46 at_928 (by decide) rfl rfl (fun r46 => ?_)
            simp (disch := omega) only [put_r6, put_w6, put_r7, put_w7, put_r9, put_w9, put_r10, put_w10, put_r11, put_w11, put_r12, put_w12, put_r13, put_w13, put_r14, put_w14, put_r15, put_w15, put_ra, put_r8, put_r0, put_rt, put_wa, u1, u2, hn8] at r46 ⊢
            refine e_iload_n (i := 3) 50 dX12_keyAt_49 rfl rfl rfl ?_
            refine e_iadd 51 dX12_keyAt_50 rfl ?_
            refine e_iald 52 dX12_keyAt_51 ar_931 (by omega) (by omega) rfl (fun r51 => ?_)
            simp (disch := omega) only [put_r6, put_w6, put_r7, put_w7, put_r9, put_w9, put_r10, put_w10, put_r11, put_w11, put_r12, put_w12, put_r13, put_w13, put_r14, put_w14, put_r15, put_w15, put_ra, put_r8, put_r0, put_rt, put_wa, u1, u2, hn8, Int.reduceAdd, Int.add_zero] at r51 ⊢
            refine e_ldcS 54 (i := 20) (by decide) rfl rfl dX12_keyAt_52 rfl ?_
            refine e_iload_n (i := 2) 55 dX12_keyAt_54 rfl rfl rfl ?_
            refine e_iload_n (i := 3) 56 dX12_keyAt_55 rfl rfl rfl ?_
            refine e_iadd 57 dX12_keyAt_56 rfl ?_
            refine e_callF (av := [jI _]) 60 (i := 20) (by decide) mt_yJ_charAt mv_yJ_charAt wd_1410 (by decide) dX12_keyAt_57 rfl rfl rfl (Nat.le_of_ble_eq_true rfl) (jroom (by decide)) rfl (c_charAt (i := 20) (k := 76) (z := 110) (by decide) (by decide) (by decide +kernel) ?_)
            dsimp only [jpush]
            (try simp (disch := omega) only [put_r6, put_w6, put_r7, put_w7, put_r9, put_w9, put_r10, put_w10, put_r11, put_w11, put_r12, put_w12, put_r13, put_w13, put_r14, put_w14, put_r15, put_w15, put_ra, put_r8, put_r0, put_rt, put_wa, u1, u2, hn8])
            refine e_icmp_ne 63 69 dX12_keyAt_60 (by omega) (by decide) (by decide) rfl (fun b60 => ?_) (fun b60 => ?_)
            · skip
              refine e_ldcS 71 (i := 20) (by decide) rfl rfl dX12_keyAt_69 rfl ?_
              refine e_iload_n (i := 2) 72 dX12_keyAt_71 rfl rfl rfl ?_
              refine e_iload_n (i := 3) 73 dX12_keyAt_72 rfl rfl rfl ?_
              refine e_iadd 74 dX12_keyAt_73 rfl ?_
              refine e_callF (av := [jI _]) 77 (i := 20) (by decide) mt_yJ_charAt mv_yJ_charAt wd_1410 (by decide) dX12_keyAt_74 rfl rfl rfl (Nat.le_of_ble_eq_true rfl) (jroom (by decide)) rfl (c_charAt (i := 20) (k := 76) (z := 110) (by decide) (by decide) (by decide +kernel) ?_)
              dsimp only [jpush]
              (try simp (disch := omega) only [put_r6, put_w6, put_r7, put_w7, put_r9, put_w9, put_r10, put_w10, put_r11, put_w11, put_r12, put_w12, put_r13, put_w13, put_r14, put_w14, put_r15, put_w15, put_ra, put_r8, put_r0, put_rt, put_wa, u1, u2, hn8])
              refine e_bipush 79 dX12_keyAt_77 (by decide) rfl ?_
              refine e_icmp_ne 82 97 dX12_keyAt_79 (by decide) (by decide) (by decide) rfl (fun _ => ?_) (fun h => absurd h (by decide))
              refine e_ls (ls2 := [(0, _), (1, _), (2, _)]) rfl ?_
              refine sk_15 (kk_16 hT hp hb ?_)
              rw [kx15, if_neg (fun q => by omega)] at h
              exact h
            · skip
              refine e_iinc (lsn := [(3, _), (0, _), (1, _), (2, _)]) 66 dX12_keyAt_63 rfl (by decide) rfl rfl ?_
              refine e_goto 15 dX12_keyAt_66 (by decide) ?_
              refine e_ldcS 17 (i := 20) (by decide) rfl rfl dX12_keyAt_15 rfl ?_
              refine e_iload_n (i := 2) 18 dX12_keyAt_17 rfl rfl rfl ?_
              refine e_iload_n (i := 3) 19 dX12_keyAt_18 rfl rfl rfl ?_
              refine e_iadd 20 dX12_keyAt_19 rfl ?_
              refine e_callF (av := [jI _]) 23 (i := 20) (by decide) mt_yJ_charAt mv_yJ_charAt wd_1410 (by decide) dX12_keyAt_20 rfl rfl rfl (Nat.le_of_ble_eq_true rfl) (jroom (by decide)) rfl (c_charAt (i := 20) (k := 77) (z := 100) (by decide) (by decide) (by decide +kernel) ?_)
              dsimp only [jpush]
              (try simp (disch := omega) only [put_r6, put_w6, put_r7, put_w7, put_r9, put_w9, put_r10, put_w10, put_r11, put_w11, put_r12, put_w12, put_r13, put_w13, put_r14, put_w14, put_r15, put_w15, put_ra, put_r8, put_r0, put_rt, put_wa, u1, u2, hn8])
              refine e_bipush 25 dX12_keyAt_23 (by decide) rfl ?_
              refine e_icmp_eq 28 69 dX12_keyAt_25 (by decide) (by decide) (by decide) rfl (fun h => absurd h (by decide)) (fun _ => ?_)
              refine e_aload_n (i := 0) 29 dX12_keyAt_28 rfl rfl rfl ?_
              refine e_geti (j := 6) 32 fl_12_97 dX12_keyAt_29 at_928 (by decide) rfl rfl (fun r29 => ?_)
              simp (disch := omega) only [put_r6, put_w6, put_r7, put_w7, put_r9, put_w9, put_r10, put_w10, put_r11, put_w11, put_r12, put_w12, put_r13, put_w13, put_r14, put_w14, put_r15, put_w15, put_ra, put_r8, put_r0, put_rt, put_wa, u1, u2, hn8] at r29 ⊢
              refine e_iload_n (i := 3) 33 dX12_keyAt_32 rfl rfl rfl ?_
              refine e_iadd 34 dX12_keyAt_33 rfl ?_
              refine e_aload_n (i := 0) 35 dX12_keyAt_34 rfl rfl rfl ?_
              refine e_geti (j := 7) 38 fl_12_100 dX12_keyAt_35 at_928 (by decide) rfl rfl (fun r35 => ?_)
              simp (disch := omega) only [put_r6, put_w6, put_r7, put_w7, put_r9, put_w9, put_r10, put_w10, put_r11, put_w11, put_r12, put_w12, put_r13, put_w13, put_r14, put_w14, put_r15, put_w15, put_ra, put_r8, put_r0, put_rt, put_wa, u1, u2, hn8] at r35 ⊢
              refine e_icmp_ge 41 69 dX12_keyAt_38 (by omega) (by omega) (by decide) rfl (fun b38 => ?_) (fun b38 => ?_)
              · skip
                refine e_ldcS 71 (i := 20) (by decide) rfl rfl dX12_keyAt_69 rfl ?_
                refine e_iload_n (i := 2) 72 dX12_keyAt_71 rfl rfl rfl ?_
                refine e_iload_n (i := 3) 73 dX12_keyAt_72 rfl rfl rfl ?_
                refine e_iadd 74 dX12_keyAt_73 rfl ?_
                refine e_callF (av := [jI _]) 77 (i := 20) (by decide) mt_yJ_charAt mv_yJ_charAt wd_1410 (by decide) dX12_keyAt_74 rfl rfl rfl (Nat.le_of_ble_eq_true rfl) (jroom (by decide)) rfl (c_charAt (i := 20) (k := 77) (z := 100) (by decide) (by decide) (by decide +kernel) ?_)
                dsimp only [jpush]
                (try simp (disch := omega) only [put_r6, put_w6, put_r7, put_w7, put_r9, put_w9, put_r10, put_w10, put_r11, put_w11, put_r12, put_w12, put_r13, put_w13, put_r14, put_w14, put_r15, put_w15, put_ra, put_r8, put_r0, put_rt, put_wa, u1, u2, hn8])
                refine e_bipush 79 dX12_keyAt_77 (by decide) rfl ?_
                refine e_icmp_ne 82 97 dX12_keyAt_79 (by decide) (by decide) (by decide) rfl (fun _ => ?_) (fun h => absurd h (by decide))
                refine e_ls (ls2 := [(0, _), (1, _), (2, _)]) rfl ?_
                refine sk_15 (kk_16 hT hp hb ?_)
                rw [kx15, if_neg (fun q => by omega)] at h
                exact h
              · skip
                refine e_aload_n (i := 0) 42 dX12_keyAt_41 rfl rfl rfl ?_
                refine e_getr (j := 3) 45 fl_12_21 dX12_keyAt_42 at_928 rfl rfl tp_928_3 rfl ?_
                refine e_aload_n (i := 0) 46 dX12_keyAt_45 rfl rfl rfl ?_
                refine e_geti (j := 6) 49 fl_12_97 dX12_keyAt_46 at_928 (by decide) rfl rfl (fun r46 => ?_)
                simp (disch := omega) only [put_r6, put_w6, put_r7, put_w7, put_r9, put_w9, put_r10, put_w10, put_r11, put_w11, put_r12, put_w12, put_r13, put_w13, put_r14, put_w14, put_r15, put_w15, put_ra, put_r8, put_r0, put_rt, put_wa, u1, u2, hn8] at r46 ⊢
                refine e_iload_n (i := 3) 50 dX12_keyAt_49 rfl rfl rfl ?_
                refine e_iadd 51 dX12_keyAt_50 rfl ?_
                refine e_iald 52 dX12_keyAt_51 ar_931 (by omega) (by omega) rfl (fun r51 => ?_)
                simp (disch := omega) only [put_r6, put_w6, put_r7, put_w7, put_r9, put_w9, put_r10, put_w10, put_r11, put_w11, put_r12, put_w12, put_r13, put_w13, put_r14, put_w14, put_r15, put_w15, put_ra, put_r8, put_r0, put_rt, put_wa, u1, u2, hn8, Int.reduceAdd, Int.add_zero] at r51 ⊢
                refine e_ldcS 54 (i := 20) (by decide) rfl rfl dX12_keyAt_52 rfl ?_
                refine e_iload_n (i := 2) 55 dX12_keyAt_54 rfl rfl rfl ?_
                refine e_iload_n (i := 3) 56 dX12_keyAt_55 rfl rfl rfl ?_
                refine e_iadd 57 dX12_keyAt_56 rfl ?_
                refine e_callF (av := [jI _]) 60 (i := 20) (by decide) mt_yJ_charAt mv_yJ_charAt wd_1410 (by decide) dX12_keyAt_57 rfl rfl rfl (Nat.le_of_ble_eq_true rfl) (jroom (by decide)) rfl (c_charAt (i := 20) (k := 77) (z := 100) (by decide) (by decide) (by decide +kernel) ?_)
                dsimp only [jpush]
                (try simp (disch := omega) only [put_r6, put_w6, put_r7, put_w7, put_r9, put_w9, put_r10, put_w10, put_r11, put_w11, put_r12, put_w12, put_r13, put_w13, put_r14, put_w14, put_r15, put_w15, put_ra, put_r8, put_r0, put_rt, put_wa, u1, u2, hn8])
                refine e_icmp_ne 63 69 dX12_keyAt_60 (by omega) (by decide) (by decide) rfl (fun b60 => ?_) (fun b60 => ?_)
                · skip
                  refine e_ldcS 71 (i := 20) (by decide) rfl rfl dX12_keyAt_69 rfl ?_
                  refine e_iload_n (i := 2) 72 dX12_keyAt_71 rfl rfl rfl ?_
                  refine e_iload_n (i := 3) 73 dX12_keyAt_72 rfl rfl rfl ?_
                  refine e_iadd 74 dX12_keyAt_73 rfl ?_
                  refine e_callF (av := [jI _]) 77 (i := 20) (by decide) mt_yJ_charAt mv_yJ_charAt wd_1410 (by decide) dX12_keyAt_74 rfl rfl rfl (Nat.le_of_ble_eq_true rfl) (jroom (by decide)) rfl (c_charAt (i := 20) (k := 77) (z := 100) (by decide) (by decide) (by decide +kernel) ?_)
                  dsimp only [jpush]
                  (try simp (disch := omega) only [put_r6, put_w6, put_r7, put_w7, put_r9, put_w9, put_r10, put_w10, put_r11, put_w11, put_r12, put_w12, put_r13, put_w13, put_r14, put_w14, put_r15, put_w15, put_ra, put_r8, put_r0, put_rt, put_wa, u1, u2, hn8])
                  refine e_bipush 79 dX12_keyAt_77 (by decide) rfl ?_
                  refine e_icmp_ne 82 97 dX12_keyAt_79 (by decide) (by decide) (by decide) rfl (fun _ => ?_) (fun h => absurd h (by decide))
                  refine e_ls (ls2 := [(0, _), (1, _), (2, _)]) rfl ?_
                  refine sk_15 (kk_16 hT hp hb ?_)
                  rw [kx15, if_neg (fun q => by omega)] at h
                  exact h
                · skip
                  refine e_iinc (lsn := [(3, _), (0, _), (1, _), (2, _)]) 66 dX12_keyAt_63 rfl (by decide) rfl rfl ?_
                  refine e_goto 15 dX12_keyAt_66 (by decide) ?_
                  refine e_ldcS 17 (i := 20) (by decide) rfl rfl dX12_keyAt_15 rfl ?_
                  refine e_iload_n (i := 2) 18 dX12_keyAt_17 rfl rfl rfl ?_
                  refine e_iload_n (i := 3) 19 dX12_keyAt_18 rfl rfl rfl ?_
                  refine e_iadd 20 dX12_keyAt_19 rfl ?_
                  refine e_callF (av := [jI _]) 23 (i := 20) (by decide) mt_yJ_charAt mv_yJ_charAt wd_1410 (by decide) dX12_keyAt_20 rfl rfl rfl (Nat.le_of_ble_eq_true rfl) (jroom (by decide)) rfl (c_charAt (i := 20) (k := 78) (z := 32) (by decide) (by decide) (by decide +kernel) ?_)
                  dsimp only [jpush]
                  (try simp (disch := omega) only [put_r6, put_w6, put_r7, put_w7, put_r9, put_w9, put_r10, put_w10, put_r11, put_w11, put_r12, put_w12, put_r13, put_w13, put_r14, put_w14, put_r15, put_w15, put_ra, put_r8, put_r0, put_rt, put_wa, u1, u2, hn8])
                  refine e_bipush 25 dX12_keyAt_23 (by decide) rfl ?_
                  refine e_icmp_eq 28 69 dX12_keyAt_25 (by decide) (by decide) (by decide) rfl (fun _ => ?_) (fun h => absurd h (by decide))
                  refine e_ldcS 71 (i := 20) (by decide) rfl rfl dX12_keyAt_69 rfl ?_
                  refine e_iload_n (i := 2) 72 dX12_keyAt_71 rfl rfl rfl ?_
                  refine e_iload_n (i := 3) 73 dX12_keyAt_72 rfl rfl rfl ?_
                  refine e_iadd 74 dX12_keyAt_73 rfl ?_
                  refine e_callF (av := [jI _]) 77 (i := 20) (by decide) mt_yJ_charAt mv_yJ_charAt wd_1410 (by decide) dX12_keyAt_74 rfl rfl rfl (Nat.le_of_ble_eq_true rfl) (jroom (by decide)) rfl (c_charAt (i := 20) (k := 78) (z := 32) (by decide) (by decide) (by decide +kernel) ?_)
                  dsimp only [jpush]
                  (try simp (disch := omega) only [put_r6, put_w6, put_r7, put_w7, put_r9, put_w9, put_r10, put_w10, put_r11, put_w11, put_r12, put_w12, put_r13, put_w13, put_r14, put_w14, put_r15, put_w15, put_ra, put_r8, put_r0, put_rt, put_wa, u1, u2, hn8])
                  refine e_bipush 79 dX12_keyAt_77 (by decide) rfl ?_
                  refine e_icmp_ne 82 97 dX12_keyAt_79 (by decide) (by decide) (by decide) rfl (fun h => absurd h (by decide)) (fun _ => ?_)
                  refine e_aload_n (i := 0) 83 dX12_keyAt_82 rfl rfl rfl ?_
                  refine e_geti (j := 6) 86 fl_12_97 dX12_keyAt_83 at_928 (by decide) rfl rfl (fun r83 => ?_)
                  simp (disch := omega) only [put_r6, put_w6, put_r7, put_w7, put_r9, put_w9, put_r10, put_w10, put_r11, put_w11, put_r12, put_w12, put_r13, put_w13, put_r14, put_w14, put_r15, put_w15, put_ra, put_r8, put_r0, put_rt, put_wa, u1, u2, hn8] at r83 ⊢
                  refine e_iload_n (i := 3) 87 dX12_keyAt_86 rfl rfl rfl ?_
                  refine e_iadd 88 dX12_keyAt_87 rfl ?_
                  refine e_aload_n (i := 0) 89 dX12_keyAt_88 rfl rfl rfl ?_
                  refine e_geti (j := 7) 92 fl_12_100 dX12_keyAt_89 at_928 (by decide) rfl rfl (fun r89 => ?_)
                  simp (disch := omega) only [put_r6, put_w6, put_r7, put_w7, put_r9, put_w9, put_r10, put_w10, put_r11, put_w11, put_r12, put_w12, put_r13, put_w13, put_r14, put_w14, put_r15, put_w15, put_ra, put_r8, put_r0, put_rt, put_wa, u1, u2, hn8] at r89 ⊢
                  refine e_icmp_ne 95 97 dX12_keyAt_92 (by omega) (by omega) (by decide) rfl (fun b92 => ?_) (fun b92 => ?_)
                  · skip
                    refine e_ls (ls2 := [(0, _), (1, _), (2, _)]) rfl ?_
                    refine sk_15 (kk_16 hT hp hb ?_)
                    rw [kx15, if_neg (fun q => by omega)] at h
                    exact h
                  · skip
                    refine e_iload_n (i := 1) 96 dX12_keyAt_95 rfl rfl rfl ?_
                    refine e_iret dX12_keyAt_96 ?_
                    rw [kx15, if_pos (by omega)] at h
                    exact h

theorem sk_14 {X : jX} {Y : jM} {Q : Int → jM → Prop} (h : jE X yX12_keyAt cX12_keyAt 4 (some .int) 5 Q Y 4 [(0, jR 928), (1, jI 15), (2, jI 74)] []) : jE X yX12_keyAt cX12_keyAt 4 (some .int) 5 Q Y 97 [(0, jR 928), (1, jI 14), (2, jI 68)] [] := by
  refine e_ldcS 99 (i := 20) (by decide) rfl rfl dX12_keyAt_97 rfl ?_
  refine e_iload_n (i := 2) 100 dX12_keyAt_99 rfl rfl rfl ?_
  refine e_callF (av := [jI _]) 103 (i := 20) (by decide) mt_yJ_charAt mv_yJ_charAt wd_1410 (by decide) dX12_keyAt_100 rfl rfl rfl (Nat.le_of_ble_eq_true rfl) (jroom (by decide)) rfl (c_charAt (i := 20) (k := 68) (z := 99) (by decide) (by decide) (by decide +kernel) ?_)
  dsimp only [jpush]
  refine e_bipush 105 dX12_keyAt_103 (by decide) rfl ?_
  refine e_icmp_eq 108 114 dX12_keyAt_105 (by decide) (by decide) (by decide) rfl (fun h => absurd h (by decide)) (fun _ => ?_)
  refine e_iinc (lsn := [(2, _), (0, _), (1, _)]) 111 dX12_keyAt_108 rfl (by decide) rfl rfl ?_
  refine e_goto 97 dX12_keyAt_111 (by decide) ?_
  refine e_ldcS 99 (i := 20) (by decide) rfl rfl dX12_keyAt_97 rfl ?_
  refine e_iload_n (i := 2) 100 dX12_keyAt_99 rfl rfl rfl ?_
  refine e_callF (av := [jI _]) 103 (i := 20) (by decide) mt_yJ_charAt mv_yJ_charAt wd_1410 (by decide) dX12_keyAt_100 rfl rfl rfl (Nat.le_of_ble_eq_true rfl) (jroom (by decide)) rfl (c_charAt (i := 20) (k := 69) (z := 108) (by decide) (by decide) (by decide +kernel) ?_)
  dsimp only [jpush]
  refine e_bipush 105 dX12_keyAt_103 (by decide) rfl ?_
  refine e_icmp_eq 108 114 dX12_keyAt_105 (by decide) (by decide) (by decide) rfl (fun h => absurd h (by decide)) (fun _ => ?_)
  refine e_iinc (lsn := [(2, _), (0, _), (1, _)]) 111 dX12_keyAt_108 rfl (by decide) rfl rfl ?_
  refine e_goto 97 dX12_keyAt_111 (by decide) ?_
  refine e_ldcS 99 (i := 20) (by decide) rfl rfl dX12_keyAt_97 rfl ?_
  refine e_iload_n (i := 2) 100 dX12_keyAt_99 rfl rfl rfl ?_
  refine e_callF (av := [jI _]) 103 (i := 20) (by decide) mt_yJ_charAt mv_yJ_charAt wd_1410 (by decide) dX12_keyAt_100 rfl rfl rfl (Nat.le_of_ble_eq_true rfl) (jroom (by decide)) rfl (c_charAt (i := 20) (k := 70) (z := 111) (by decide) (by decide) (by decide +kernel) ?_)
  dsimp only [jpush]
  refine e_bipush 105 dX12_keyAt_103 (by decide) rfl ?_
  refine e_icmp_eq 108 114 dX12_keyAt_105 (by decide) (by decide) (by decide) rfl (fun h => absurd h (by decide)) (fun _ => ?_)
  refine e_iinc (lsn := [(2, _), (0, _), (1, _)]) 111 dX12_keyAt_108 rfl (by decide) rfl rfl ?_
  refine e_goto 97 dX12_keyAt_111 (by decide) ?_
  refine e_ldcS 99 (i := 20) (by decide) rfl rfl dX12_keyAt_97 rfl ?_
  refine e_iload_n (i := 2) 100 dX12_keyAt_99 rfl rfl rfl ?_
  refine e_callF (av := [jI _]) 103 (i := 20) (by decide) mt_yJ_charAt mv_yJ_charAt wd_1410 (by decide) dX12_keyAt_100 rfl rfl rfl (Nat.le_of_ble_eq_true rfl) (jroom (by decide)) rfl (c_charAt (i := 20) (k := 71) (z := 116) (by decide) (by decide) (by decide +kernel) ?_)
  dsimp only [jpush]
  refine e_bipush 105 dX12_keyAt_103 (by decide) rfl ?_
  refine e_icmp_eq 108 114 dX12_keyAt_105 (by decide) (by decide) (by decide) rfl (fun h => absurd h (by decide)) (fun _ => ?_)
  refine e_iinc (lsn := [(2, _), (0, _), (1, _)]) 111 dX12_keyAt_108 rfl (by decide) rfl rfl ?_
  refine e_goto 97 dX12_keyAt_111 (by decide) ?_
  refine e_ldcS 99 (i := 20) (by decide) rfl rfl dX12_keyAt_97 rfl ?_
  refine e_iload_n (i := 2) 100 dX12_keyAt_99 rfl rfl rfl ?_
  refine e_callF (av := [jI _]) 103 (i := 20) (by decide) mt_yJ_charAt mv_yJ_charAt wd_1410 (by decide) dX12_keyAt_100 rfl rfl rfl (Nat.le_of_ble_eq_true rfl) (jroom (by decide)) rfl (c_charAt (i := 20) (k := 72) (z := 104) (by decide) (by decide) (by decide +kernel) ?_)
  dsimp only [jpush]
  refine e_bipush 105 dX12_keyAt_103 (by decide) rfl ?_
  refine e_icmp_eq 108 114 dX12_keyAt_105 (by decide) (by decide) (by decide) rfl (fun h => absurd h (by decide)) (fun _ => ?_)
  refine e_iinc (lsn := [(2, _), (0, _), (1, _)]) 111 dX12_keyAt_108 rfl (by decide) rfl rfl ?_
  refine e_goto 97 dX12_keyAt_111 (by decide) ?_
  refine e_ldcS 99 (i := 20) (by decide) rfl rfl dX12_keyAt_97 rfl ?_
  refine e_iload_n (i := 2) 100 dX12_keyAt_99 rfl rfl rfl ?_
  refine e_callF (av := [jI _]) 103 (i := 20) (by decide) mt_yJ_charAt mv_yJ_charAt wd_1410 (by decide) dX12_keyAt_100 rfl rfl rfl (Nat.le_of_ble_eq_true rfl) (jroom (by decide)) rfl (c_charAt (i := 20) (k := 73) (z := 32) (by decide) (by decide) (by decide +kernel) ?_)
  dsimp only [jpush]
  refine e_bipush 105 dX12_keyAt_103 (by decide) rfl ?_
  refine e_icmp_eq 108 114 dX12_keyAt_105 (by decide) (by decide) (by decide) rfl (fun _ => ?_) (fun h => absurd h (by decide))
  refine e_iinc (lsn := [(2, _), (0, _), (1, _)]) 117 dX12_keyAt_114 rfl (by decide) rfl rfl ?_
  refine e_iinc (lsn := [(1, _), (2, _), (0, _)]) 120 dX12_keyAt_117 rfl (by decide) rfl rfl ?_
  refine e_goto 4 dX12_keyAt_120 (by decide) ?_
  refine e_ls (ls2 := [(0, _), (1, _), (2, _)]) rfl ?_
  exact h

theorem kk_14 {X : jX} {M : jM} {n : Int} {Q : Int → jM → Prop} (hT : RT M n) {s : PS} (hp : 0 ≤ s.1) (hb : s.1 ≤ s.2.1 ∧ s.2.1 ≤ n) (h : Q (kx14 (M 931) s.1 s.2.1) (put M s)) : jE X yX12_keyAt cX12_keyAt 4 (some .int) 5 Q (put M s) 4 [(0, jR 928), (1, jI 14), (2, jI 68)] [] := by
  have hn8 := hT.1
  have hn := hT.2.1
  refine e_iload_n (i := 2) 5 dX12_keyAt_4 rfl rfl rfl ?_
  refine e_ldcS 7 (i := 20) (by decide) rfl rfl dX12_keyAt_5 rfl ?_
  refine e_callF (av := []) 10 (i := 20) (by decide) mt_yJ_len mv_yJ_len wd_1409 (by decide) dX12_keyAt_7 rfl rfl rfl (Nat.le_of_ble_eq_true rfl) (jroom (by decide)) rfl (c_strlen (i := 20) (z := 99) (by decide) (by decide) ?_)
  dsimp only [jpush]
  (try simp (disch := omega) only [put_r6, put_w6, put_r7, put_w7, put_r9, put_w9, put_r10, put_w10, put_r11, put_w11, put_r12, put_w12, put_r13, put_w13, put_r14, put_w14, put_r15, put_w15, put_ra, put_r8, put_r0, put_rt, put_wa, u1, u2, hn8])
  refine e_icmp_ge 13 123 dX12_keyAt_10 (by decide) (by decide) (by decide) rfl (fun h => absurd h (by decide)) (fun _ => ?_)
  refine e_iconst 14 dX12_keyAt_13 rfl ?_
  refine e_istore_n (i := 3) (lsn := [(3, _), (0, _), (1, _), (2, _)]) 15 dX12_keyAt_14 rfl (by decide) rfl rfl ?_
  refine e_ldcS 17 (i := 20) (by decide) rfl rfl dX12_keyAt_15 rfl ?_
  refine e_iload_n (i := 2) 18 dX12_keyAt_17 rfl rfl rfl ?_
  refine e_iload_n (i := 3) 19 dX12_keyAt_18 rfl rfl rfl ?_
  refine e_iadd 20 dX12_keyAt_19 rfl ?_
  refine e_callF (av := [jI _]) 23 (i := 20) (by decide) mt_yJ_charAt mv_yJ_charAt wd_1410 (by decide) dX12_keyAt_20 rfl rfl rfl (Nat.le_of_ble_eq_true rfl) (jroom (by decide)) rfl (c_charAt (i := 20) (k := 68) (z := 99) (by decide) (by decide) (by decide +kernel) ?_)
  dsimp only [jpush]
  (try simp (disch := omega) only [put_r6, put_w6, put_r7, put_w7, put_r9, put_w9, put_r10, put_w10, put_r11, put_w11, put_r12, put_w12, put_r13, put_w13, put_r14, put_w14, put_r15, put_w15, put_ra, put_r8, put_r0, put_rt, put_wa, u1, u2, hn8])
  refine e_bipush 25 dX12_keyAt_23 (by decide) rfl ?_
  refine e_icmp_eq 28 69 dX12_keyAt_25 (by decide) (by decide) (by decide) rfl (fun h => absurd h (by decide)) (fun _ => ?_)
  refine e_aload_n (i := 0) 29 dX12_keyAt_28 rfl rfl rfl ?_
  refine e_geti (j := 6) 32 fl_12_97 dX12_keyAt_29 at_928 (by decide) rfl rfl (fun r29 => ?_)
  simp (disch := omega) only [put_r6, put_w6, put_r7, put_w7, put_r9, put_w9, put_r10, put_w10, put_r11, put_w11, put_r12, put_w12, put_r13, put_w13, put_r14, put_w14, put_r15, put_w15, put_ra, put_r8, put_r0, put_rt, put_wa, u1, u2, hn8] at r29 ⊢
  refine e_iload_n (i := 3) 33 dX12_keyAt_32 rfl rfl rfl ?_
  refine e_iadd 34 dX12_keyAt_33 rfl ?_
  refine e_aload_n (i := 0) 35 dX12_keyAt_34 rfl rfl rfl ?_
  refine e_geti (j := 7) 38 fl_12_100 dX12_keyAt_35 at_928 (by decide) rfl rfl (fun r35 => ?_)
  simp (disch := omega) only [put_r6, put_w6, put_r7, put_w7, put_r9, put_w9, put_r10, put_w10, put_r11, put_w11, put_r12, put_w12, put_r13, put_w13, put_r14, put_w14, put_r15, put_w15, put_ra, put_r8, put_r0, put_rt, put_wa, u1, u2, hn8] at r35 ⊢
  refine e_icmp_ge 41 69 dX12_keyAt_38 (by omega) (by omega) (by decide) rfl (fun b38 => ?_) (fun b38 => ?_)
  · skip
    refine e_ldcS 71 (i := 20) (by decide) rfl rfl dX12_keyAt_69 rfl ?_
    refine e_iload_n (i := 2) 72 dX12_keyAt_71 rfl rfl rfl ?_
    refine e_iload_n (i := 3) 73 dX12_keyAt_72 rfl rfl rfl ?_
    refine e_iadd 74 dX12_keyAt_73 rfl ?_
    refine e_callF (av := [jI _]) 77 (i := 20) (by decide) mt_yJ_charAt mv_yJ_charAt wd_1410 (by decide) dX12_keyAt_74 rfl rfl rfl (Nat.le_of_ble_eq_true rfl) (jroom (by decide)) rfl (c_charAt (i := 20) (k := 68) (z := 99) (by decide) (by decide) (by decide +kernel) ?_)
    dsimp only [jpush]
    (try simp (disch := omega) only [put_r6, put_w6, put_r7, put_w7, put_r9, put_w9, put_r10, put_w10, put_r11, put_w11, put_r12, put_w12, put_r13, put_w13, put_r14, put_w14, put_r15, put_w15, put_ra, put_r8, put_r0, put_rt, put_wa, u1, u2, hn8])
    refine e_bipush 79 dX12_keyAt_77 (by decide) rfl ?_
    refine e_icmp_ne 82 97 dX12_keyAt_79 (by decide) (by decide) (by decide) rfl (fun _ => ?_) (fun h => absurd h (by decide))
    refine e_ls (ls2 := [(0, _), (1, _), (2, _)]) rfl ?_
    refine sk_14 (kk_15 hT hp hb ?_)
    rw [kx14, if_neg (fun q => by omega)] at h
    exact h
  · skip
    refine e_aload_n (i := 0) 42 dX12_keyAt_41 rfl rfl rfl ?_
    refine e_getr (j := 3) 45 fl_12_21 dX12_keyAt_42 at_928 rfl rfl tp_928_3 rfl ?_
    refine e_aload_n (i := 0) 46 dX12_keyAt_45 rfl rfl rfl ?_
    refine e_geti (j := 6) 49 fl_12_97 dX12_keyAt_46 at_928 (by decide) rfl rfl (fun r46 => ?_)
    simp (disch := omega) only [put_r6, put_w6, put_r7, put_w7, put_r9, put_w9, put_r10, put_w10, put_r11, put_w11, put_r12, put_w12, put_r13, put_w13, put_r14, put_w14, put_r15, put_w15, put_ra, put_r8, put_r0, put_rt, put_wa, u1, u2, hn8] at r46 ⊢
    refine e_iload_n (i := 3) 50 dX12_keyAt_49 rfl rfl rfl ?_
    refine e_iadd 51 dX12_keyAt_50 rfl ?_
    refine e_iald 52 dX12_keyAt_51 ar_931 (by omega) (by omega) rfl (fun r51 => ?_)
    simp (disch := omega) only [put_r6, put_w6, put_r7, put_w7, put_r9, put_w9, put_r10, put_w10, put_r11, put_w11, put_r12, put_w12, put_r13, put_w13, put_r14, put_w14, put_r15, put_w15, put_ra, put_r8, put_r0, put_rt, put_wa, u1, u2, hn8, Int.reduceAdd, Int.add_zero] at r51 ⊢
    refine e_ldcS 54 (i := 20) (by decide) rfl rfl dX12_keyAt_52 rfl ?_
    refine e_iload_n (i := 2) 55 dX12_keyAt_54 rfl rfl rfl ?_
    refine e_iload_n (i := 3) 56 dX12_keyAt_55 rfl rfl rfl ?_
    refine e_iadd 57 dX12_keyAt_56 rfl ?_
    refine e_callF (av := [jI _]) 60 (i := 20) (by decide) mt_yJ_charAt mv_yJ_charAt wd_1410 (by decide) dX12_keyAt_57 rfl rfl rfl (Nat.le_of_ble_eq_true rfl) (jroom (by decide)) rfl (c_charAt (i := 20) (k := 68) (z := 99) (by decide) (by decide) (by decide +kernel) ?_)
    dsimp only [jpush]
    (try simp (disch := omega) only [put_r6, put_w6, put_r7, put_w7, put_r9, put_w9, put_r10, put_w10, put_r11, put_w11, put_r12, put_w12, put_r13, put_w13, put_r14, put_w14, put_r15, put_w15, put_ra, put_r8, put_r0, put_rt, put_wa, u1, u2, hn8])
    refine e_icmp_ne 63 69 dX12_keyAt_60 (by omega) (by decide) (by decide) rfl (fun b60 => ?_) (fun b60 => ?_)
    · skip
      refine e_ldcS 71 (i := 20) (by decide) rfl rfl dX12_keyAt_69 rfl ?_
      refine e_iload_n (i := 2) 72 dX12_keyAt_71 rfl rfl rfl ?_
      refine e_iload_n (i := 3) 73 dX12_keyAt_72 rfl rfl rfl ?_
      refine e_iadd 74 dX12_keyAt_73 rfl ?_
      refine e_callF (av := [jI _]) 77 (i := 20) (by decide) mt_yJ_charAt mv_yJ_charAt wd_1410 (by decide) dX12_keyAt_74 rfl rfl rfl (Nat.le_of_ble_eq_true rfl) (jroom (by decide)) rfl (c_charAt (i := 20) (k := 68) (z := 99) (by decide) (by decide) (by decide +kernel) ?_)
      dsimp only [jpush]
      (try simp (disch := omega) only [put_r6, put_w6, put_r7, put_w7, put_r9, put_w9, put_r10, put_w10, put_r11, put_w11, put_r12, put_w12, put_r13, put_w13, put_r14, put_w14, put_r15, put_w15, put_ra, put_r8, put_r0, put_rt, put_wa, u1, u2, hn8])
      refine e_bipush 79 dX12_keyAt_77 (by decide) rfl ?_
      refine e_icmp_ne 82 97 dX12_keyAt_79 (by decide) (by decide) (by decide) rfl (fun _ => ?_) (fun h => absurd h (by decide))
      refine e_ls (ls2 := [(0, _), (1, _), (2, _)]) rfl ?_
      refine sk_14 (kk_15 hT hp hb ?_)
      rw [kx14, if_neg (fun q => by omega)] at h
      exact h
    · skip
      refine e_iinc (lsn := [(3, _), (0, _), (1, _), (2, _)]) 66 dX12_keyAt_63 rfl (by decide) rfl rfl ?_
      refine e_goto 15 dX12_keyAt_66 (by decide) ?_
      refine e_ldcS 17 (i := 20) (by decide) rfl rfl dX12_keyAt_15 rfl ?_
      refine e_iload_n (i := 2) 18 dX12_keyAt_17 rfl rfl rfl ?_
      refine e_iload_n (i := 3) 19 dX12_keyAt_18 rfl rfl rfl ?_
      refine e_iadd 20 dX12_keyAt_19 rfl ?_
      refine e_callF (av := [jI _]) 23 (i := 20) (by decide) mt_yJ_charAt mv_yJ_charAt wd_1410 (by decide) dX12_keyAt_20 rfl rfl rfl (Nat.le_of_ble_eq_true rfl) (jroom (by decide)) rfl (c_charAt (i := 20) (k := 69) (z := 108) (by decide) (by decide) (by decide +kernel) ?_)
      dsimp only [jpush]
      (try simp (disch := omega) only [put_r6, put_w6, put_r7, put_w7, put_r9, put_w9, put_r10, put_w10, put_r11, put_w11, put_r12, put_w12, put_r13, put_w13, put_r14, put_w14, put_r15, put_w15, put_ra, put_r8, put_r0, put_rt, put_wa, u1, u2, hn8])
      refine e_bipush 25 dX12_keyAt_23 (by decide) rfl ?_
      refine e_icmp_eq 28 69 dX12_keyAt_25 (by decide) (by decide) (by decide) rfl (fun h => absurd h (by decide)) (fun _ => ?_)
      refine e_aload_n (i := 0) 29 dX12_keyAt_28 rfl rfl rfl ?_
      refine e_geti (j := 6) 32 fl_12_97 dX12_keyAt_29 at_928 (by decide) rfl rfl (fun r29 => ?_)
      simp (disch := omega) only [put_r6, put_w6, put_r7, put_w7, put_r9, put_w9, put_r10, put_w10, put_r11, put_w11, put_r12, put_w12, put_r13, put_w13, put_r14, put_w14, put_r15, put_w15, put_ra, put_r8, put_r0, put_rt, put_wa, u1, u2, hn8] at r29 ⊢
      refine e_iload_n (i := 3) 33 dX12_keyAt_32 rfl rfl rfl ?_
      refine e_iadd 34 dX12_keyAt_33 rfl ?_
      refine e_aload_n (i := 0) 35 dX12_keyAt_34 rfl rfl rfl ?_
      refine e_geti (j := 7) 38 fl_12_100 dX12_keyAt_35 at_928 (by decide) rfl rfl (fun r35 => ?_)
      simp (disch := omega) only [put_r6, put_w6, put_r7, put_w7, put_r9, put_w9, put_r10, put_w10, put_r11, put_w11, put_r12, put_w12, put_r13, put_w13, put_r14, put_w14, put_r15, put_w15, put_ra, put_r8, put_r0, put_rt, put_wa, u1, u2, hn8] at r35 ⊢
      refine e_icmp_ge 41 69 dX12_keyAt_38 (by omega) (by omega) (by decide) rfl (fun b38 => ?_) (fun b38 => ?_)
      · skip
        refine e_ldcS 71 (i := 20) (by decide) rfl rfl dX12_keyAt_69 rfl ?_
        refine e_iload_n (i := 2) 72 dX12_keyAt_71 rfl rfl rfl ?_
        refine e_iload_n (i := 3) 73 dX12_keyAt_72 rfl rfl rfl ?_
        refine e_iadd 74 dX12_keyAt_73 rfl ?_
        refine e_callF (av := [jI _]) 77 (i := 20) (by decide) mt_yJ_charAt mv_yJ_charAt wd_1410 (by decide) dX12_keyAt_74 rfl rfl rfl (Nat.le_of_ble_eq_true rfl) (jroom (by decide)) rfl (c_charAt (i := 20) (k := 69) (z := 108) (by decide) (by decide) (by decide +kernel) ?_)
        dsimp only [jpush]
        (try simp (disch := omega) only [put_r6, put_w6, put_r7, put_w7, put_r9, put_w9, put_r10, put_w10, put_r11, put_w11, put_r12, put_w12, put_r13, put_w13, put_r14, put_w14, put_r15, put_w15, put_ra, put_r8, put_r0, put_rt, put_wa, u1, u2, hn8])
        refine e_bipush 79 dX12_keyAt_77 (by decide) rfl ?_
        refine e_icmp_ne 82 97 dX12_keyAt_79 (by decide) (by decide) (by decide) rfl (fun _ => ?_) (fun h => absurd h (by decide))
        refine e_ls (ls2 := [(0, _), (1, _), (2, _)]) rfl ?_
        refine sk_14 (kk_15 hT hp hb ?_)
        rw [kx14, if_neg (fun q => by omega)] at h
        exact h
      · skip
        refine e_aload_n (i := 0) 42 dX12_keyAt_41 rfl rfl rfl ?_
        refine e_getr (j := 3) 45 fl_12_21 dX12_keyAt_42 at_928 rfl rfl tp_928_3 rfl ?_
        refine e_aload_n (i := 0) 46 dX12_keyAt_45 rfl rfl rfl ?_
        refine e_geti (j := 6) 49 fl_12_97 dX12_keyAt_46 at_928 (by decide) rfl rfl (fun r46 => ?_)
        simp (disch := omega) only [put_r6, put_w6, put_r7, put_w7, put_r9, put_w9, put_r10, put_w10, put_r11, put_w11, put_r12, put_w12, put_r13, put_w13, put_r14, put_w14, put_r15, put_w15, put_ra, put_r8, put_r0, put_rt, put_wa, u1, u2, hn8] at r46 ⊢
        refine e_iload_n (i := 3) 50 dX12_keyAt_49 rfl rfl rfl ?_
        refine e_iadd 51 dX12_keyAt_50 rfl ?_
        refine e_iald 52 dX12_keyAt_51 ar_931 (by omega) (by omega) rfl (fun r51 => ?_)
        simp (disch := omega) only [put_r6, put_w6, put_r7, put_w7, put_r9, put_w9, put_r10, put_w10, put_r11, put_w11, put_r12, put_w12, put_r13, put_w13, put_r14, put_w14, put_r15, put_w15, put_ra, put_r8, put_r0, put_rt, put_wa, u1, u2, hn8, Int.reduceAdd, Int.add_zero] at r51 ⊢
        refine e_ldcS 54 (i := 20) (by decide) rfl rfl dX12_keyAt_52 rfl ?_
        refine e_iload_n (i := 2) 55 dX12_keyAt_54 rfl rfl rfl ?_
        refine e_iload_n (i := 3) 56 dX12_keyAt_55 rfl rfl rfl ?_
        refine e_iadd 57 dX12_keyAt_56 rfl ?_
        refine e_callF (av := [jI _]) 60 (i := 20) (by decide) mt_yJ_charAt mv_yJ_charAt wd_1410 (by decide) dX12_keyAt_57 rfl rfl rfl (Nat.le_of_ble_eq_true rfl) (jroom (by decide)) rfl (c_charAt (i := 20) (k := 69) (z := 108) (by decide) (by decide) (by decide +kernel) ?_)
        dsimp only [jpush]
        (try simp (disch := omega) only [put_r6, put_w6, put_r7, put_w7, put_r9, put_w9, put_r10, put_w10, put_r11, put_w11, put_r12, put_w12, put_r13, put_w13, put_r14, put_w14, put_r15, put_w15, put_ra, put_r8, put_r0, put_rt, put_wa, u1, u2, hn8])
        refine e_icmp_ne 63 69 dX12_keyAt_60 (by omega) (by decide) (by decide) rfl (fun b60 => ?_) (fun b60 => ?_)
        · skip
          refine e_ldcS 71 (i := 20) (by decide) rfl rfl dX12_keyAt_69 rfl ?_
          refine e_iload_n (i := 2) 72 dX12_keyAt_71 rfl rfl rfl ?_
          refine e_iload_n (i := 3) 73 dX12_keyAt_72 rfl rfl rfl ?_
          refine e_iadd 74 dX12_keyAt_73 rfl ?_
          refine e_callF (av := [jI _]) 77 (i := 20) (by decide) mt_yJ_charAt mv_yJ_charAt wd_1410 (by decide) dX12_keyAt_74 rfl rfl rfl (Nat.le_of_ble_eq_true rfl) (jroom (by decide)) rfl (c_charAt (i := 20) (k := 69) (z := 108) (by decide) (by decide) (by decide +kernel) ?_)
          dsimp only [jpush]
          (try simp (disch := omega) only [put_r6, put_w6, put_r7, put_w7, put_r9, put_w9, put_r10, put_w10, put_r11, put_w11, put_r12, put_w12, put_r13, put_w13, put_r14, put_w14, put_r15, put_w15, put_ra, put_r8, put_r0, put_rt, put_wa, u1, u2, hn8])
          refine e_bipush 79 dX12_keyAt_77 (by decide) rfl ?_
          refine e_icmp_ne 82 97 dX12_keyAt_79 (by decide) (by decide) (by decide) rfl (fun _ => ?_) (fun h => absurd h (by decide))
          refine e_ls (ls2 := [(0, _), (1, _), (2, _)]) rfl ?_
          refine sk_14 (kk_15 hT hp hb ?_)
          rw [kx14, if_neg (fun q => by omega)] at h
          exact h
        · skip
          refine e_iinc (lsn := [(3, _), (0, _), (1, _), (2, _)]) 66 dX12_keyAt_63 rfl (by decide) rfl rfl ?_
          refine e_goto 15 dX12_keyAt_66 (by decide) ?_
          refine e_ldcS 17 (i := 20) (by decide) rfl rfl dX12_keyAt_15 rfl ?_
          refine e_iload_n (i := 2) 18 dX12_keyAt_17 rfl rfl rfl ?_
          refine e_iload_n (i := 3) 19 dX12_keyAt_18 rfl rfl rfl ?_
          refine e_iadd 20 dX12_keyAt_19 rfl ?_
          refine e_callF (av := [jI _]) 23 (i := 20) (by decide) mt_yJ_charAt mv_yJ_charAt wd_1410 (by decide) dX12_keyAt_20 rfl rfl rfl (Nat.le_of_ble_eq_true rfl) (jroom (by decide)) rfl (c_charAt (i := 20) (k := 70) (z := 111) (by decide) (by decide) (by decide +kernel) ?_)
          dsimp only [jpush]
          (try simp (disch := omega) only [put_r6, put_w6, put_r7, put_w7, put_r9, put_w9, put_r10, put_w10, put_r11, put_w11, put_r12, put_w12, put_r13, put_w13, put_r14, put_w14, put_r15, put_w15, put_ra, put_r8, put_r0, put_rt, put_wa, u1, u2, hn8])
          refine e_bipush 25 dX12_keyAt_23 (by decide) rfl ?_
          refine e_icmp_eq 28 69 dX12_keyAt_25 (by decide) (by decide) (by decide) rfl (fun h => absurd h (by decide)) (fun _ => ?_)
          refine e_aload_n (i := 0) 29 dX12_keyAt_28 rfl rfl rfl ?_
          refine e_geti (j := 6) 32 fl_12_97 dX12_keyAt_29 at_928 (by decide) rfl rfl (fun r29 => ?_)
          simp (disch := omega) only [put_r6, put_w6, put_r7, put_w7, put_r9, put_w9, put_r10, put_w10, put_r11, put_w11, put_r12, put_w12, put_r13, put_w13, put_r14, put_w14, put_r15, put_w15, put_ra, put_r8, put_r0, put_rt, put_wa, u1, u2, hn8] at r29 ⊢
          refine e_iload_n (i := 3) 33 dX12_keyAt_32 rfl rfl rfl ?_
          refine e_iadd 34 dX12_keyAt_33 rfl ?_
          refine e_aload_n (i := 0) 35 dX12_keyAt_34 rfl rfl rfl ?_
          refine e_geti (j := 7) 38 fl_12_100 dX12_keyAt_35 at_928 (by decide) rfl rfl (fun r35 => ?_)
          simp (disch := omega) only [put_r6, put_w6, put_r7, put_w7, put_r9, put_w9, put_r10, put_w10, put_r11, put_w11, put_r12, put_w12, put_r13, put_w13, put_r14, put_w14, put_r15, put_w15, put_ra, put_r8, put_r0, put_rt, put_wa, u1, u2, hn8] at r35 ⊢
          refine e_icmp_ge 41 69 dX12_keyAt_38 (by omega) (by omega) (by decide) rfl (fun b38 => ?_) (fun b38 => ?_)
          · skip
            refine e_ldcS 71 (i := 20) (by decide) rfl rfl dX12_keyAt_69 rfl ?_
            refine e_iload_n (i := 2) 72 dX12_keyAt_71 rfl rfl rfl ?_
            refine e_iload_n (i := 3) 73 dX12_keyAt_72 rfl rfl rfl ?_
            refine e_iadd 74 dX12_keyAt_73 rfl ?_
            refine e_callF (av := [jI _]) 77 (i := 20) (by decide) mt_yJ_charAt mv_yJ_charAt wd_1410 (by decide) dX12_keyAt_74 rfl rfl rfl (Nat.le_of_ble_eq_true rfl) (jroom (by decide)) rfl (c_charAt (i := 20) (k := 70) (z := 111) (by decide) (by decide) (by decide +kernel) ?_)
            dsimp only [jpush]
            (try simp (disch := omega) only [put_r6, put_w6, put_r7, put_w7, put_r9, put_w9, put_r10, put_w10, put_r11, put_w11, put_r12, put_w12, put_r13, put_w13, put_r14, put_w14, put_r15, put_w15, put_ra, put_r8, put_r0, put_rt, put_wa, u1, u2, hn8])
            refine e_bipush 79 dX12_keyAt_77 (by decide) rfl ?_
            refine e_icmp_ne 82 97 dX12_keyAt_79 (by decide) (by decide) (by decide) rfl (fun _ => ?_) (fun h => absurd h (by decide))
            refine e_ls (ls2 := [(0, _), (1, _), (2, _)]) rfl ?_
            refine sk_14 (kk_15 hT hp hb ?_)
            rw [kx14, if_neg (fun q => by omega)] at h
            exact h
          · skip
            refine e_aload_n (i := 0) 42 dX12_keyAt_41 rfl rfl rfl ?_
            refine e_getr (j := 3) 45 fl_12_21 dX12_keyAt_42 at_928 rfl rfl tp_928_3 rfl ?_
            refine e_aload_n (i := 0) 46 dX12_keyAt_45 rfl rfl rfl ?_
            refine e_geti (j := 6) 49 fl_12_97 dX12_keyAt_46 at_928 (by decide) rfl rfl (fun r46 => ?_)
            simp (disch := omega) only [put_r6, put_w6, put_r7, put_w7, put_r9, put_w9, put_r10, put_w10, put_r11, put_w11, put_r12, put_w12, put_r13, put_w13, put_r14, put_w14, put_r15, put_w15, put_ra, put_r8, put_r0, put_rt, put_wa, u1, u2, hn8] at r46 ⊢
            refine e_iload_n (i := 3) 50 dX12_keyAt_49 rfl rfl rfl ?_
            refine e_iadd 51 dX12_keyAt_50 rfl ?_
            refine e_iald 52 dX12_keyAt_51 ar_931 (by omega) (by omega) rfl (fun r51 => ?_)
            simp (disch := omega) only [put_r6, put_w6, put_r7, put_w7, put_r9, put_w9, put_r10, put_w10, put_r11, put_w11, put_r12, put_w12, put_r13, put_w13, put_r14, put_w14, put_r15, put_w15, put_ra, put_r8, put_r0, put_rt, put_wa, u1, u2, hn8, Int.reduceAdd, Int.add_zero] at r51 ⊢
            refine e_ldcS 54 (i := 20) (by decide) rfl rfl dX12_keyAt_52 rfl ?_
            refine e_iload_n (i := 2) 55 dX12_keyAt_54 rfl rfl rfl ?_
            refine e_iload_n (i := 3) 56 dX12_keyAt_55 rfl rfl rfl ?_
            refine e_iadd 57 dX12_keyAt_56 rfl ?_
            refine e_callF (av := [jI _]) 60 (i := 20) (by decide) mt_yJ_charAt mv_yJ_charAt wd_1410 (by decide) dX12_keyAt_57 rfl rfl rfl (Nat.le_of_ble_eq_true rfl) (jroom (by decide)) rfl (c_charAt (i := 20) (k := 70) (z := 111) (by decide) (by decide) (by decide +kernel) ?_)
            dsimp only [jpush]
            (try simp (disch := omega) only [put_r6, put_w6, put_r7, put_w7, put_r9, put_w9, put_r10, put_w10, put_r11, put_w11, put_r12, put_w12, put_r13, put_w13, put_r14, put_w14, put_r15, put_w15, put_ra, put_r8, put_r0, put_rt, put_wa, u1, u2, hn8])
            refine e_icmp_ne 63 69 dX12_keyAt_60 (by omega) (by decide) (by decide) rfl (fun b60 => ?_) (fun b60 => ?_)
            · skip
              refine e_ldcS 71 (i := 20) (by decide) rfl rfl dX12_keyAt_69 rfl ?_
              refine e_iload_n (i := 2) 72 dX12_keyAt_71 rfl rfl rfl ?_
              refine e_iload_n (i := 3) 73 dX12_keyAt_72 rfl rfl rfl ?_
              refine e_iadd 74 dX12_keyAt_73 rfl ?_
              refine e_callF (av := [jI _]) 77 (i := 20) (by decide) mt_yJ_charAt mv_yJ_charAt wd_1410 (by decide) dX12_keyAt_74 rfl rfl rfl (Nat.le_of_ble_eq_true rfl) (jroom (by decide)) rfl (c_charAt (i := 20) (k := 70) (z := 111) (by decide) (by decide) (by decide +kernel) ?_)
              dsimp only [jpush]
              (try simp (disch := omega) only [put_r6, put_w6, put_r7, put_w7, put_r9, put_w9, put_r10, put_w10, put_r11, put_w11, put_r12, put_w12, put_r13, put_w13, put_r14, put_w14, put_r15, put_w15, put_ra, put_r8, put_r0, put_rt, put_wa, u1, u2, hn8])
              refine e_bipush 79 dX12_keyAt_77 (by decide) rfl ?_
              refine e_icmp_ne 82 97 dX12_keyAt_79 (by decide) (by decide) (by decide) rfl (fun _ => ?_) (fun h => absurd h (by decide))
              refine e_ls (ls2 := [(0, _), (1, _), (2, _)]) rfl ?_
              refine sk_14 (kk_15 hT hp hb ?_)
              rw [kx14, if_neg (fun q => by omega)] at h
              exact h
            · skip
              refine e_iinc (lsn := [(3, _), (0, _), (1, _), (2, _)]) 66 dX12_keyAt_63 rfl (by decide) rfl rfl ?_
              refine e_goto 15 dX12_keyAt_66 (by decide) ?_
              refine e_ldcS 17 (i := 20) (by decide) rfl rfl dX12_keyAt_15 rfl ?_
              refine e_iload_n (i := 2) 18 dX12_keyAt_17 rfl rfl rfl ?_
              refine e_iload_n (i := 3) 19 dX12_keyAt_18 rfl rfl rfl ?_
              refine e_iadd 20 dX12_keyAt_19 rfl ?_
              refine e_callF (av := [jI _]) 23 (i := 20) (by decide) mt_yJ_charAt mv_yJ_charAt wd_1410 (by decide) dX12_keyAt_20 rfl rfl rfl (Nat.le_of_ble_eq_true rfl) (jroom (by decide)) rfl (c_charAt (i := 20) (k := 71) (z := 116) (by decide) (by decide) (by decide +kernel) ?_)
              dsimp only [jpush]
              (try simp (disch := omega) only [put_r6, put_w6, put_r7, put_w7, put_r9, put_w9, put_r10, put_w10, put_r11, put_w11, put_r12, put_w12, put_r13, put_w13, put_r14, put_w14, put_r15, put_w15, put_ra, put_r8, put_r0, put_rt, put_wa, u1, u2, hn8])
              refine e_bipush 25 dX12_keyAt_23 (by decide) rfl ?_
              refine e_icmp_eq 28 69 dX12_keyAt_25 (by decide) (by decide) (by decide) rfl (fun h => absurd h (by decide)) (fun _ => ?_)
              refine e_aload_n (i := 0) 29 dX12_keyAt_28 rfl rfl rfl ?_
              refine e_geti (j := 6) 32 fl_12_97 dX12_keyAt_29 at_928 (by decide) rfl rfl (fun r29 => ?_)
              simp (disch := omega) only [put_r6, put_w6, put_r7, put_w7, put_r9, put_w9, put_r10, put_w10, put_r11, put_w11, put_r12, put_w12, put_r13, put_w13, put_r14, put_w14, put_r15, put_w15, put_ra, put_r8, put_r0, put_rt, put_wa, u1, u2, hn8] at r29 ⊢
              refine e_iload_n (i := 3) 33 dX12_keyAt_32 rfl rfl rfl ?_
              refine e_iadd 34 dX12_keyAt_33 rfl ?_
              refine e_aload_n (i := 0) 35 dX12_keyAt_34 rfl rfl rfl ?_
              refine e_geti (j := 7) 38 fl_12_100 dX12_keyAt_35 at_928 (by decide) rfl rfl (fun r35 => ?_)
              simp (disch := omega) only [put_r6, put_w6, put_r7, put_w7, put_r9, put_w9, put_r10, put_w10, put_r11, put_w11, put_r12, put_w12, put_r13, put_w13, put_r14, put_w14, put_r15, put_w15, put_ra, put_r8, put_r0, put_rt, put_wa, u1, u2, hn8] at r35 ⊢
              refine e_icmp_ge 41 69 dX12_keyAt_38 (by omega) (by omega) (by decide) rfl (fun b38 => ?_) (fun b38 => ?_)
              · skip
                refine e_ldcS 71 (i := 20) (by decide) rfl rfl dX12_keyAt_69 rfl ?_
                refine e_iload_n (i := 2) 72 dX12_keyAt_71 rfl rfl rfl ?_
                refine e_iload_n (i := 3) 73 dX12_keyAt_72 rfl rfl rfl ?_
                refine e_iadd 74 dX12_keyAt_73 rfl ?_
                refine e_callF (av := [jI _]) 77 (i := 20) (by decide) mt_yJ_charAt mv_yJ_charAt wd_1410 (by decide) dX12_keyAt_74 rfl rfl rfl (Nat.le_of_ble_eq_true rfl) (jroom (by decide)) rfl (c_charAt (i := 20) (k := 71) (z := 116) (by decide) (by decide) (by decide +kernel) ?_)
                dsimp only [jpush]
                (try simp (disch := omega) only [put_r6, put_w6, put_r7, put_w7, put_r9, put_w9, put_r10, put_w10, put_r11, put_w11, put_r12, put_w12, put_r13, put_w13, put_r14, put_w14, put_r15, put_w15, put_ra, put_r8, put_r0, put_rt, put_wa, u1, u2, hn8])
                refine e_bipush 79 dX12_keyAt_77 (by decide) rfl ?_
                refine e_icmp_ne 82 97 dX12_keyAt_79 (by decide) (by decide) (by decide) rfl (fun _ => ?_) (fun h => absurd h (by decide))
                refine e_ls (ls2 := [(0, _), (1, _), (2, _)]) rfl ?_
                refine sk_14 (kk_15 hT hp hb ?_)
                rw [kx14, if_neg (fun q => by omega)] at h
                exact h
              · skip
                refine e_aload_n (i := 0) 42 dX12_keyAt_41 rfl rfl rfl ?_
                refine e_getr (j := 3) 45 fl_12_21 dX12_keyAt_42 at_928 rfl rfl tp_928_3 rfl ?_
                refine e_aload_n (i := 0) 46 dX12_keyAt_45 rfl rfl rfl ?_
                refine e_geti (j := 6) 49 fl_12_97 dX12_keyAt_46 at_928 (by decide) rfl rfl (fun r46 => ?_)
                simp (disch := omega) only [put_r6, put_w6, put_r7, put_w7, put_r9, put_w9, put_r10, put_w10, put_r11, put_w11, put_r12, put_w12, put_r13, put_w13, put_r14, put_w14, put_r15, put_w15, put_ra, put_r8, put_r0, put_rt, put_wa, u1, u2, hn8] at r46 ⊢
                refine e_iload_n (i := 3) 50 dX12_keyAt_49 rfl rfl rfl ?_
                refine e_iadd 51 dX12_keyAt_50 rfl ?_
                refine e_iald 52 dX12_keyAt_51 ar_931 (by omega) (by omega) rfl (fun r51 => ?_)
                simp (disch := omega) only [put_r6, put_w6, put_r7, put_w7, put_r9, put_w9, put_r10, put_w10, put_r11, put_w11, put_r12, put_w12, put_r13, put_w13, put_r14, put_w14, put_r15, put_w15, put_ra, put_r8, put_r0, put_rt, put_wa, u1, u2, hn8, Int.reduceAdd, Int.add_zero] at r51 ⊢
                refine e_ldcS 54 (i := 20) (by decide) rfl rfl dX12_keyAt_52 rfl ?_
                refine e_iload_n (i := 2) 55 dX12_keyAt_54 rfl rfl rfl ?_
                refine e_iload_n (i := 3) 56 dX12_keyAt_55 rfl rfl rfl ?_
                refine e_iadd 57 dX12_keyAt_56 rfl ?_
                refine e_callF (av := [jI _]) 60 (i := 20) (by decide) mt_yJ_charAt mv_yJ_charAt wd_1410 (by decide) dX12_keyAt_57 rfl rfl rfl (Nat.le_of_ble_eq_true rfl) (jroom (by decide)) rfl (c_charAt (i := 20) (k := 71) (z := 116) (by decide) (by decide) (by decide +kernel) ?_)
                dsimp only [jpush]
                (try simp (disch := omega) only [put_r6, put_w6, put_r7, put_w7, put_r9, put_w9, put_r10, put_w10, put_r11, put_w11, put_r12, put_w12, put_r13, put_w13, put_r14, put_w14, put_r15, put_w15, put_ra, put_r8, put_r0, put_rt, put_wa, u1, u2, hn8])
                refine e_icmp_ne 63 69 dX12_keyAt_60 (by omega) (by decide) (by decide) rfl (fun b60 => ?_) (fun b60 => ?_)
                · skip
                  refine e_ldcS 71 (i := 20) (by decide) rfl rfl dX12_keyAt_69 rfl ?_
                  refine e_iload_n (i := 2) 72 dX12_keyAt_71 rfl rfl rfl ?_
                  refine e_iload_n (i := 3) 73 dX12_keyAt_72 rfl rfl rfl ?_
                  refine e_iadd 74 dX12_keyAt_73 rfl ?_
                  refine e_callF (av := [jI _]) 77 (i := 20) (by decide) mt_yJ_charAt mv_yJ_charAt wd_1410 (by decide) dX12_keyAt_74 rfl rfl rfl (Nat.le_of_ble_eq_true rfl) (jroom (by decide)) rfl (c_charAt (i := 20) (k := 71) (z := 116) (by decide) (by decide) (by decide +kernel) ?_)
                  dsimp only [jpush]
                  (try simp (disch := omega) only [put_r6, put_w6, put_r7, put_w7, put_r9, put_w9, put_r10, put_w10, put_r11, put_w11, put_r12, put_w12, put_r13, put_w13, put_r14, put_w14, put_r15, put_w15, put_ra, put_r8, put_r0, put_rt, put_wa, u1, u2, hn8])
                  refine e_bipush 79 dX12_keyAt_77 (by decide) rfl ?_
                  refine e_icmp_ne 82 97 dX12_keyAt_79 (by decide) (by decide) (by decide) rfl (fun _ => ?_) (fun h => absurd h (by decide))
                  refine e_ls (ls2 := [(0, _), (1, _), (2, _)]) rfl ?_
                  refine sk_14 (kk_15 hT hp hb ?_)
                  rw [kx14, if_neg (fun q => by omega)] at h
                  exact h
                · skip
                  refine e_iinc (lsn := [(3, _), (0, _), (1, _), (2, _)]) 66 dX12_keyAt_63 rfl (by decide) rfl rfl ?_
                  refine e_goto 15 dX12_keyAt_66 (by decide) ?_
                  refine e_ldcS 17 (i := 20) (by decide) rfl rfl dX12_keyAt_15 rfl ?_
                  refine e_iload_n (i := 2) 18 dX12_keyAt_17 rfl rfl rfl ?_
                  refine e_iload_n (i := 3) 19 dX12_keyAt_18 rfl rfl rfl ?_
                  refine e_iadd 20 dX12_keyAt_19 rfl ?_
                  refine e_callF (av := [jI _]) 23 (i := 20) (by decide) mt_yJ_charAt mv_yJ_charAt wd_1410 (by decide) dX12_keyAt_20 rfl rfl rfl (Nat.le_of_ble_eq_true rfl) (jroom (by decide)) rfl (c_charAt (i := 20) (k := 72) (z := 104) (by decide) (by decide) (by decide +kernel) ?_)
                  dsimp only [jpush]
                  (try simp (disch := omega) only [put_r6, put_w6, put_r7, put_w7, put_r9, put_w9, put_r10, put_w10, put_r11, put_w11, put_r12, put_w12, put_r13, put_w13, put_r14, put_w14, put_r15, put_w15, put_ra, put_r8, put_r0, put_rt, put_wa, u1, u2, hn8])
                  refine e_bipush 25 dX12_keyAt_23 (by decide) rfl ?_
                  refine e_icmp_eq 28 69 dX12_keyAt_25 (by decide) (by decide) (by decide) rfl (fun h => absurd h (by decide)) (fun _ => ?_)
                  refine e_aload_n (i := 0) 29 dX12_keyAt_28 rfl rfl rfl ?_
                  refine e_geti (j := 6) 32 fl_12_97 dX12_keyAt_29 at_928 (by decide) rfl rfl (fun r29 => ?_)
                  simp (disch := omega) only [put_r6, put_w6, put_r7, put_w7, put_r9, put_w9, put_r10, put_w10, put_r11, put_w11, put_r12, put_w12, put_r13, put_w13, put_r14, put_w14, put_r15, put_w15, put_ra, put_r8, put_r0, put_rt, put_wa, u1, u2, hn8] at r29 ⊢
                  refine e_iload_n (i := 3) 33 dX12_keyAt_32 rfl rfl rfl ?_
                  refine e_iadd 34 dX12_keyAt_33 rfl ?_
                  refine e_aload_n (i := 0) 35 dX12_keyAt_34 rfl rfl rfl ?_
                  refine e_geti (j := 7) 38 fl_12_100 dX12_keyAt_35 at_928 (by decide) rfl rfl (fun r35 => ?_)
                  simp (disch := omega) only [put_r6, put_w6, put_r7, put_w7, put_r9, put_w9, put_r10, put_w10, put_r11, put_w11, put_r12, put_w12, put_r13, put_w13, put_r14, put_w14, put_r15, put_w15, put_ra, put_r8, put_r0, put_rt, put_wa, u1, u2, hn8] at r35 ⊢
                  refine e_icmp_ge 41 69 dX12_keyAt_38 (by omega) (by omega) (by decide) rfl (fun b38 => ?_) (fun b38 => ?_)
                  · skip
                    refine e_ldcS 71 (i := 20) (by decide) rfl rfl dX12_keyAt_69 rfl ?_
                    refine e_iload_n (i := 2) 72 dX12_keyAt_71 rfl rfl rfl ?_
                    refine e_iload_n (i := 3) 73 dX12_keyAt_72 rfl rfl rfl ?_
                    refine e_iadd 74 dX12_keyAt_73 rfl ?_
                    refine e_callF (av := [jI _]) 77 (i := 20) (by decide) mt_yJ_charAt mv_yJ_charAt wd_1410 (by decide) dX12_keyAt_74 rfl rfl rfl (Nat.le_of_ble_eq_true rfl) (jroom (by decide)) rfl (c_charAt (i := 20) (k := 72) (z := 104) (by decide) (by decide) (by decide +kernel) ?_)
                    dsimp only [jpush]
                    (try simp (disch := omega) only [put_r6, put_w6, put_r7, put_w7, put_r9, put_w9, put_r10, put_w10, put_r11, put_w11, put_r12, put_w12, put_r13, put_w13, put_r14, put_w14, put_r15, put_w15, put_ra, put_r8, put_r0, put_rt, put_wa, u1, u2, hn8])
                    refine e_bipush 79 dX12_keyAt_77 (by decide) rfl ?_
                    refine e_icmp_ne 82 97 dX12_keyAt_79 (by decide) (by decide) (by decide) rfl (fun _ => ?_) (fun h => absurd h (by decide))
                    refine e_ls (ls2 := [(0, _), (1, _), (2, _)]) rfl ?_
                    refine sk_14 (kk_15 hT hp hb ?_)
                    rw [kx14, if_neg (fun q => by omega)] at h
                    exact h
                  · skip
                    refine e_aload_n (i := 0) 42 dX12_keyAt_41 rfl rfl rfl ?_
                    refine e_getr (j := 3) 45 fl_12_21 dX12_keyAt_42 at_928 rfl rfl tp_928_3 rfl ?_
                    refine e_aload_n (i := 0) 46 dX12_keyAt_45 rfl rfl rfl ?_
                    refine e_geti (j := 6) 49 fl_12_97 dX12_keyAt_46 at_928 (by decide) rfl rfl (fun r46 => ?_)
                    simp (disch := omega) only [put_r6, put_w6, put_r7, put_w7, put_r9, put_w9, put_r10, put_w10, put_r11, put_w11, put_r12, put_w12, put_r13, put_w13, put_r14, put_w14, put_r15, put_w15, put_ra, put_r8, put_r0, put_rt, put_wa, u1, u2, hn8] at r46 ⊢
                    refine e_iload_n (i := 3) 50 dX12_keyAt_49 rfl rfl rfl ?_
                    refine e_iadd 51 dX12_keyAt_50 rfl ?_
                    refine e_iald 52 dX12_keyAt_51 ar_931 (by omega) (by omega) rfl (fun r51 => ?_)
                    simp (disch := omega) only [put_r6, put_w6, put_r7, put_w7, put_r9, put_w9, put_r10, put_w10, put_r11, put_w11, put_r12, put_w12, put_r13, put_w13, put_r14, put_w14, put_r15, put_w15, put_ra, put_r8, put_r0, put_rt, put_wa, u1, u2, hn8, Int.reduceAdd, Int.add_zero] at r51 ⊢
                    refine e_ldcS 54 (i := 20) (by decide) rfl rfl dX12_keyAt_52 rfl ?_
                    refine e_iload_n (i := 2) 55 dX12_keyAt_54 rfl rfl rfl ?_
                    refine e_iload_n (i := 3) 56 dX12_keyAt_55 rfl rfl rfl ?_
                    refine e_iadd 57 dX12_keyAt_56 rfl ?_
                    refine e_callF (av := [jI _]) 60 (i := 20) (by decide) mt_yJ_charAt mv_yJ_charAt wd_1410 (by decide) dX12_keyAt_57 rfl rfl rfl (Nat.le_of_ble_eq_true rfl) (jroom (by decide)) rfl (c_charAt (i := 20) (k := 72) (z := 104) (by decide) (by decide) (by decide +kernel) ?_)
                    dsimp only [jpush]
                    (try simp (disch := omega) only [put_r6, put_w6, put_r7, put_w7, put_r9, put_w9, put_r10, put_w10, put_r11, put_w11, put_r12, put_w12, put_r13, put_w13, put_r14, put_w14, put_r15, put_w15, put_ra, put_r8, put_r0, put_rt, put_wa, u1, u2, hn8])
                    refine e_icmp_ne 63 69 dX12_keyAt_60 (by omega) (by decide) (by decide) rfl (fun b60 => ?_) (fun b60 => ?_)
                    · skip
                      refine e_ldcS 71 (i := 20) (by decide) rfl rfl dX12_keyAt_69 rfl ?_
                      refine e_iload_n (i := 2) 72 dX12_keyAt_71 rfl rfl rfl ?_
                      refine e_iload_n (i := 3) 73 dX12_keyAt_72 rfl rfl rfl ?_
                      refine e_iadd 74 dX12_keyAt_73 rfl ?_
                      refine e_callF (av := [jI _]) 77 (i := 20) (by decide) mt_yJ_charAt mv_yJ_charAt wd_1410 (by decide) dX12_keyAt_74 rfl rfl rfl (Nat.le_of_ble_eq_true rfl) (jroom (by decide)) rfl (c_charAt (i := 20) (k := 72) (z := 104) (by decide) (by decide) (by decide +kernel) ?_)
                      dsimp only [jpush]
                      (try simp (disch := omega) only [put_r6, put_w6, put_r7, put_w7, put_r9, put_w9, put_r10, put_w10, put_r11, put_w11, put_r12, put_w12, put_r13, put_w13, put_r14, put_w14, put_r15, put_w15, put_ra, put_r8, put_r0, put_rt, put_wa, u1, u2, hn8])
                      refine e_bipush 79 dX12_keyAt_77 (by decide) rfl ?_
                      refine e_icmp_ne 82 97 dX12_keyAt_79 (by decide) (by decide) (by decide) rfl (fun _ => ?_) (fun h => absurd h (by decide))
                      refine e_ls (ls2 := [(0, _), (1, _), (2, _)]) rfl ?_
                      refine sk_14 (kk_15 hT hp hb ?_)
                      rw [kx14, if_neg (fun q => by omega)] at h
                      exact h
                    · skip
                      refine e_iinc (lsn := [(3, _), (0, _), (1, _), (2, _)]) 66 dX12_keyAt_63 rfl (by decide) rfl rfl ?_
                      refine e_goto 15 dX12_keyAt_66 (by decide) ?_
                      refine e_ldcS 17 (i := 20) (by decide) rfl rfl dX12_keyAt_15 rfl ?_
                      refine e_iload_n (i := 2) 18 dX12_keyAt_17 rfl rfl rfl ?_
                      refine e_iload_n (i := 3) 19 dX12_keyAt_18 rfl rfl rfl ?_
                      refine e_iadd 20 dX12_keyAt_19 rfl ?_
                      refine e_callF (av := [jI _]) 23 (i := 20) (by decide) mt_yJ_charAt mv_yJ_charAt wd_1410 (by decide) dX12_keyAt_20 rfl rfl rfl (Nat.le_of_ble_eq_true rfl) (jroom (by decide)) rfl (c_charAt (i := 20) (k := 73) (z := 32) (by decide) (by decide) (by decide +kernel) ?_)
                      dsimp only [jpush]
                      (try simp (disch := omega) only [put_r6, put_w6, put_r7, put_w7, put_r9, put_w9, put_r10, put_w10, put_r11, put_w11, put_r12, put_w12, put_r13, put_w13, put_r14, put_w14, put_r15, put_w15, put_ra, put_r8, put_r0, put_rt, put_wa, u1, u2, hn8])
                      refine e_bipush 25 dX12_keyAt_23 (by decide) rfl ?_
                      refine e_icmp_eq 28 69 dX12_keyAt_25 (by decide) (by decide) (by decide) rfl (fun _ => ?_) (fun h => absurd h (by decide))
                      refine e_ldcS 71 (i := 20) (by decide) rfl rfl dX12_keyAt_69 rfl ?_
                      refine e_iload_n (i := 2) 72 dX12_keyAt_71 rfl rfl rfl ?_
                      refine e_iload_n (i := 3) 73 dX12_keyAt_72 rfl rfl rfl ?_
                      refine e_iadd 74 dX12_keyAt_73 rfl ?_
                      refine e_callF (av := [jI _]) 77 (i := 20) (by decide) mt_yJ_charAt mv_yJ_charAt wd_1410 (by decide) dX12_keyAt_74 rfl rfl rfl (Nat.le_of_ble_eq_true rfl) (jroom (by decide)) rfl (c_charAt (i := 20) (k := 73) (z := 32) (by decide) (by decide) (by decide +kernel) ?_)
                      dsimp only [jpush]
                      (try simp (disch := omega) only [put_r6, put_w6, put_r7, put_w7, put_r9, put_w9, put_r10, put_w10, put_r11, put_w11, put_r12, put_w12, put_r13, put_w13, put_r14, put_w14, put_r15, put_w15, put_ra, put_r8, put_r0, put_rt, put_wa, u1, u2, hn8])
                      refine e_bipush 79 dX12_keyAt_77 (by decide) rfl ?_
                      refine e_icmp_ne 82 97 dX12_keyAt_79 (by decide) (by decide) (by decide) rfl (fun h => absurd h (by decide)) (fun _ => ?_)
                      refine e_aload_n (i := 0) 83 dX12_keyAt_82 rfl rfl rfl ?_
                      refine e_geti (j := 6) 86 fl_12_97 dX12_keyAt_83 at_928 (by decide) rfl rfl (fun r83 => ?_)
                      simp (disch := omega) only [put_r6, put_w6, put_r7, put_w7, put_r9, put_w9, put_r10, put_w10, put_r11, put_w11, put_r12, put_w12, put_r13, put_w13, put_r14, put_w14, put_r15, put_w15, put_ra, put_r8, put_r0, put_rt, put_wa, u1, u2, hn8] at r83 ⊢
                      refine e_iload_n (i := 3) 87 dX12_keyAt_86 rfl rfl rfl ?_
                      refine e_iadd 88 dX12_keyAt_87 rfl ?_
                      refine e_aload_n (i := 0) 89 dX12_keyAt_88 rfl rfl rfl ?_
                      refine e_geti (j := 7) 92 fl_12_100 dX12_keyAt_89 at_928 (by decide) rfl rfl (fun r89 => ?_)
                      simp (disch := omega) only [put_r6, put_w6, put_r7, put_w7, put_r9, put_w9, put_r10, put_w10, put_r11, put_w11, put_r12, put_w12, put_r13, put_w13, put_r14, put_w14, put_r15, put_w15, put_ra, put_r8, put_r0, put_rt, put_wa, u1, u2, hn8] at r89 ⊢
                      refine e_icmp_ne 95 97 dX12_keyAt_92 (by omega) (by omega) (by decide) rfl (fun b92 => ?_) (fun b92 => ?_)
                      · skip
                        refine e_ls (ls2 := [(0, _), (1, _), (2, _)]) rfl ?_
                        refine sk_14 (kk_15 hT hp hb ?_)
                        rw [kx14, if_neg (fun q => by omega)] at h
                        exact h
                      · skip
                        refine e_iload_n (i := 1) 96 dX12_keyAt_95 rfl rfl rfl ?_
                        refine e_iret dX12_keyAt_96 ?_
                        rw [kx14, if_pos (by omega)] at h
                        exact h

theorem sk_13 {X : jX} {Y : jM} {Q : Int → jM → Prop} (h : jE X yX12_keyAt cX12_keyAt 4 (some .int) 5 Q Y 4 [(0, jR 928), (1, jI 14), (2, jI 68)] []) : jE X yX12_keyAt cX12_keyAt 4 (some .int) 5 Q Y 97 [(0, jR 928), (1, jI 13), (2, jI 64)] [] := by
  refine e_ldcS 99 (i := 20) (by decide) rfl rfl dX12_keyAt_97 rfl ?_
  refine e_iload_n (i := 2) 100 dX12_keyAt_99 rfl rfl rfl ?_
  refine e_callF (av := [jI _]) 103 (i := 20) (by decide) mt_yJ_charAt mv_yJ_charAt wd_1410 (by decide) dX12_keyAt_100 rfl rfl rfl (Nat.le_of_ble_eq_true rfl) (jroom (by decide)) rfl (c_charAt (i := 20) (k := 64) (z := 110) (by decide) (by decide) (by decide +kernel) ?_)
  dsimp only [jpush]
  refine e_bipush 105 dX12_keyAt_103 (by decide) rfl ?_
  refine e_icmp_eq 108 114 dX12_keyAt_105 (by decide) (by decide) (by decide) rfl (fun h => absurd h (by decide)) (fun _ => ?_)
  refine e_iinc (lsn := [(2, _), (0, _), (1, _)]) 111 dX12_keyAt_108 rfl (by decide) rfl rfl ?_
  refine e_goto 97 dX12_keyAt_111 (by decide) ?_
  refine e_ldcS 99 (i := 20) (by decide) rfl rfl dX12_keyAt_97 rfl ?_
  refine e_iload_n (i := 2) 100 dX12_keyAt_99 rfl rfl rfl ?_
  refine e_callF (av := [jI _]) 103 (i := 20) (by decide) mt_yJ_charAt mv_yJ_charAt wd_1410 (by decide) dX12_keyAt_100 rfl rfl rfl (Nat.le_of_ble_eq_true rfl) (jroom (by decide)) rfl (c_charAt (i := 20) (k := 65) (z := 111) (by decide) (by decide) (by decide +kernel) ?_)
  dsimp only [jpush]
  refine e_bipush 105 dX12_keyAt_103 (by decide) rfl ?_
  refine e_icmp_eq 108 114 dX12_keyAt_105 (by decide) (by decide) (by decide) rfl (fun h => absurd h (by decide)) (fun _ => ?_)
  refine e_iinc (lsn := [(2, _), (0, _), (1, _)]) 111 dX12_keyAt_108 rfl (by decide) rfl rfl ?_
  refine e_goto 97 dX12_keyAt_111 (by decide) ?_
  refine e_ldcS 99 (i := 20) (by decide) rfl rfl dX12_keyAt_97 rfl ?_
  refine e_iload_n (i := 2) 100 dX12_keyAt_99 rfl rfl rfl ?_
  refine e_callF (av := [jI _]) 103 (i := 20) (by decide) mt_yJ_charAt mv_yJ_charAt wd_1410 (by decide) dX12_keyAt_100 rfl rfl rfl (Nat.le_of_ble_eq_true rfl) (jroom (by decide)) rfl (c_charAt (i := 20) (k := 66) (z := 116) (by decide) (by decide) (by decide +kernel) ?_)
  dsimp only [jpush]
  refine e_bipush 105 dX12_keyAt_103 (by decide) rfl ?_
  refine e_icmp_eq 108 114 dX12_keyAt_105 (by decide) (by decide) (by decide) rfl (fun h => absurd h (by decide)) (fun _ => ?_)
  refine e_iinc (lsn := [(2, _), (0, _), (1, _)]) 111 dX12_keyAt_108 rfl (by decide) rfl rfl ?_
  refine e_goto 97 dX12_keyAt_111 (by decide) ?_
  refine e_ldcS 99 (i := 20) (by decide) rfl rfl dX12_keyAt_97 rfl ?_
  refine e_iload_n (i := 2) 100 dX12_keyAt_99 rfl rfl rfl ?_
  refine e_callF (av := [jI _]) 103 (i := 20) (by decide) mt_yJ_charAt mv_yJ_charAt wd_1410 (by decide) dX12_keyAt_100 rfl rfl rfl (Nat.le_of_ble_eq_true rfl) (jroom (by decide)) rfl (c_charAt (i := 20) (k := 67) (z := 32) (by decide) (by decide) (by decide +kernel) ?_)
  dsimp only [jpush]
  refine e_bipush 105 dX12_keyAt_103 (by decide) rfl ?_
  refine e_icmp_eq 108 114 dX12_keyAt_105 (by decide) (by decide) (by decide) rfl (fun _ => ?_) (fun h => absurd h (by decide))
  refine e_iinc (lsn := [(2, _), (0, _), (1, _)]) 117 dX12_keyAt_114 rfl (by decide) rfl rfl ?_
  refine e_iinc (lsn := [(1, _), (2, _), (0, _)]) 120 dX12_keyAt_117 rfl (by decide) rfl rfl ?_
  refine e_goto 4 dX12_keyAt_120 (by decide) ?_
  refine e_ls (ls2 := [(0, _), (1, _), (2, _)]) rfl ?_
  exact h

theorem kk_13 {X : jX} {M : jM} {n : Int} {Q : Int → jM → Prop} (hT : RT M n) {s : PS} (hp : 0 ≤ s.1) (hb : s.1 ≤ s.2.1 ∧ s.2.1 ≤ n) (h : Q (kx13 (M 931) s.1 s.2.1) (put M s)) : jE X yX12_keyAt cX12_keyAt 4 (some .int) 5 Q (put M s) 4 [(0, jR 928), (1, jI 13), (2, jI 64)] [] := by
  have hn8 := hT.1
  have hn := hT.2.1
  refine e_iload_n (i := 2) 5 dX12_keyAt_4 rfl rfl rfl ?_
  refine e_ldcS 7 (i := 20) (by decide) rfl rfl dX12_keyAt_5 rfl ?_
  refine e_callF (av := []) 10 (i := 20) (by decide) mt_yJ_len mv_yJ_len wd_1409 (by decide) dX12_keyAt_7 rfl rfl rfl (Nat.le_of_ble_eq_true rfl) (jroom (by decide)) rfl (c_strlen (i := 20) (z := 99) (by decide) (by decide) ?_)
  dsimp only [jpush]
  (try simp (disch := omega) only [put_r6, put_w6, put_r7, put_w7, put_r9, put_w9, put_r10, put_w10, put_r11, put_w11, put_r12, put_w12, put_r13, put_w13, put_r14, put_w14, put_r15, put_w15, put_ra, put_r8, put_r0, put_rt, put_wa, u1, u2, hn8])
  refine e_icmp_ge 13 123 dX12_keyAt_10 (by decide) (by decide) (by decide) rfl (fun h => absurd h (by decide)) (fun _ => ?_)
  refine e_iconst 14 dX12_keyAt_13 rfl ?_
  refine e_istore_n (i := 3) (lsn := [(3, _), (0, _), (1, _), (2, _)]) 15 dX12_keyAt_14 rfl (by decide) rfl rfl ?_
  refine e_ldcS 17 (i := 20) (by decide) rfl rfl dX12_keyAt_15 rfl ?_
  refine e_iload_n (i := 2) 18 dX12_keyAt_17 rfl rfl rfl ?_
  refine e_iload_n (i := 3) 19 dX12_keyAt_18 rfl rfl rfl ?_
  refine e_iadd 20 dX12_keyAt_19 rfl ?_
  refine e_callF (av := [jI _]) 23 (i := 20) (by decide) mt_yJ_charAt mv_yJ_charAt wd_1410 (by decide) dX12_keyAt_20 rfl rfl rfl (Nat.le_of_ble_eq_true rfl) (jroom (by decide)) rfl (c_charAt (i := 20) (k := 64) (z := 110) (by decide) (by decide) (by decide +kernel) ?_)
  dsimp only [jpush]
  (try simp (disch := omega) only [put_r6, put_w6, put_r7, put_w7, put_r9, put_w9, put_r10, put_w10, put_r11, put_w11, put_r12, put_w12, put_r13, put_w13, put_r14, put_w14, put_r15, put_w15, put_ra, put_r8, put_r0, put_rt, put_wa, u1, u2, hn8])
  refine e_bipush 25 dX12_keyAt_23 (by decide) rfl ?_
  refine e_icmp_eq 28 69 dX12_keyAt_25 (by decide) (by decide) (by decide) rfl (fun h => absurd h (by decide)) (fun _ => ?_)
  refine e_aload_n (i := 0) 29 dX12_keyAt_28 rfl rfl rfl ?_
  refine e_geti (j := 6) 32 fl_12_97 dX12_keyAt_29 at_928 (by decide) rfl rfl (fun r29 => ?_)
  simp (disch := omega) only [put_r6, put_w6, put_r7, put_w7, put_r9, put_w9, put_r10, put_w10, put_r11, put_w11, put_r12, put_w12, put_r13, put_w13, put_r14, put_w14, put_r15, put_w15, put_ra, put_r8, put_r0, put_rt, put_wa, u1, u2, hn8] at r29 ⊢
  refine e_iload_n (i := 3) 33 dX12_keyAt_32 rfl rfl rfl ?_
  refine e_iadd 34 dX12_keyAt_33 rfl ?_
  refine e_aload_n (i := 0) 35 dX12_keyAt_34 rfl rfl rfl ?_
  refine e_geti (j := 7) 38 fl_12_100 dX12_keyAt_35 at_928 (by decide) rfl rfl (fun r35 => ?_)
  simp (disch := omega) only [put_r6, put_w6, put_r7, put_w7, put_r9, put_w9, put_r10, put_w10, put_r11, put_w11, put_r12, put_w12, put_r13, put_w13, put_r14, put_w14, put_r15, put_w15, put_ra, put_r8, put_r0, put_rt, put_wa, u1, u2, hn8] at r35 ⊢
  refine e_icmp_ge 41 69 dX12_keyAt_38 (by omega) (by omega) (by decide) rfl (fun b38 => ?_) (fun b38 => ?_)
  · skip
    refine e_ldcS 71 (i := 20) (by decide) rfl rfl dX12_keyAt_69 rfl ?_
    refine e_iload_n (i := 2) 72 dX12_keyAt_71 rfl rfl rfl ?_
    refine e_iload_n (i := 3) 73 dX12_keyAt_72 rfl rfl rfl ?_
    refine e_iadd 74 dX12_keyAt_73 rfl ?_
    refine e_callF (av := [jI _]) 77 (i := 20) (by decide) mt_yJ_charAt mv_yJ_charAt wd_1410 (by decide) dX12_keyAt_74 rfl rfl rfl (Nat.le_of_ble_eq_true rfl) (jroom (by decide)) rfl (c_charAt (i := 20) (k := 64) (z := 110) (by decide) (by decide) (by decide +kernel) ?_)
    dsimp only [jpush]
    (try simp (disch := omega) only [put_r6, put_w6, put_r7, put_w7, put_r9, put_w9, put_r10, put_w10, put_r11, put_w11, put_r12, put_w12, put_r13, put_w13, put_r14, put_w14, put_r15, put_w15, put_ra, put_r8, put_r0, put_rt, put_wa, u1, u2, hn8])
    refine e_bipush 79 dX12_keyAt_77 (by decide) rfl ?_
    refine e_icmp_ne 82 97 dX12_keyAt_79 (by decide) (by decide) (by decide) rfl (fun _ => ?_) (fun h => absurd h (by decide))
    refine e_ls (ls2 := [(0, _), (1, _), (2, _)]) rfl ?_
    refine sk_13 (kk_14 hT hp hb ?_)
    rw [kx13, if_neg (fun q => by omega)] at h
    exact h
  · skip
    refine e_aload_n (i := 0) 42 dX12_keyAt_41 rfl rfl rfl ?_
    refine e_getr (j := 3) 45 fl_12_21 dX12_keyAt_42 at_928 rfl rfl tp_928_3 rfl ?_
    refine e_aload_n (i := 0) 46 dX12_keyAt_45 rfl rfl rfl ?_
    refine e_geti (j := 6) 49 fl_12_97 dX12_keyAt_46 at_928 (by decide) rfl rfl (fun r46 => ?_)
    simp (disch := omega) only [put_r6, put_w6, put_r7, put_w7, put_r9, put_w9, put_r10, put_w10, put_r11, put_w11, put_r12, put_w12, put_r13, put_w13, put_r14, put_w14, put_r15, put_w15, put_ra, put_r8, put_r0, put_rt, put_wa, u1, u2, hn8] at r46 ⊢
    refine e_iload_n (i := 3) 50 dX12_keyAt_49 rfl rfl rfl ?_
    refine e_iadd 51 dX12_keyAt_50 rfl ?_
    refine e_iald 52 dX12_keyAt_51 ar_931 (by omega) (by omega) rfl (fun r51 => ?_)
    simp (disch := omega) only [put_r6, put_w6, put_r7, put_w7, put_r9, put_w9, put_r10, put_w10, put_r11, put_w11, put_r12, put_w12, put_r13, put_w13, put_r14, put_w14, put_r15, put_w15, put_ra, put_r8, put_r0, put_rt, put_wa, u1, u2, hn8, Int.reduceAdd, Int.add_zero] at r51 ⊢
    refine e_ldcS 54 (i := 20) (by decide) rfl rfl dX12_keyAt_52 rfl ?_
    refine e_iload_n (i := 2) 55 dX12_keyAt_54 rfl rfl rfl ?_
    refine e_iload_n (i := 3) 56 dX12_keyAt_55 rfl rfl rfl ?_
    refine e_iadd 57 dX12_keyAt_56 rfl ?_
    refine e_callF (av := [jI _]) 60 (i := 20) (by decide) mt_yJ_charAt mv_yJ_charAt wd_1410 (by decide) dX12_keyAt_57 rfl rfl rfl (Nat.le_of_ble_eq_true rfl) (jroom (by decide)) rfl (c_charAt (i := 20) (k := 64) (z := 110) (by decide) (by decide) (by decide +kernel) ?_)
    dsimp only [jpush]
    (try simp (disch := omega) only [put_r6, put_w6, put_r7, put_w7, put_r9, put_w9, put_r10, put_w10, put_r11, put_w11, put_r12, put_w12, put_r13, put_w13, put_r14, put_w14, put_r15, put_w15, put_ra, put_r8, put_r0, put_rt, put_wa, u1, u2, hn8])
    refine e_icmp_ne 63 69 dX12_keyAt_60 (by omega) (by decide) (by decide) rfl (fun b60 => ?_) (fun b60 => ?_)
    · skip
      refine e_ldcS 71 (i := 20) (by decide) rfl rfl dX12_keyAt_69 rfl ?_
      refine e_iload_n (i := 2) 72 dX12_keyAt_71 rfl rfl rfl ?_
      refine e_iload_n (i := 3) 73 dX12_keyAt_72 rfl rfl rfl ?_
      refine e_iadd 74 dX12_keyAt_73 rfl ?_
      refine e_callF (av := [jI _]) 77 (i := 20) (by decide) mt_yJ_charAt mv_yJ_charAt wd_1410 (by decide) dX12_keyAt_74 rfl rfl rfl (Nat.le_of_ble_eq_true rfl) (jroom (by decide)) rfl (c_charAt (i := 20) (k := 64) (z := 110) (by decide) (by decide) (by decide +kernel) ?_)
      dsimp only [jpush]
      (try simp (disch := omega) only [put_r6, put_w6, put_r7, put_w7, put_r9, put_w9, put_r10, put_w10, put_r11, put_w11, put_r12, put_w12, put_r13, put_w13, put_r14, put_w14, put_r15, put_w15, put_ra, put_r8, put_r0, put_rt, put_wa, u1, u2, hn8])
      refine e_bipush 79 dX12_keyAt_77 (by decide) rfl ?_
      refine e_icmp_ne 82 97 dX12_keyAt_79 (by decide) (by decide) (by decide) rfl (fun _ => ?_) (fun h => absurd h (by decide))
      refine e_ls (ls2 := [(0, _), (1, _), (2, _)]) rfl ?_
      refine sk_13 (kk_14 hT hp hb ?_)
      rw [kx13, if_neg (fun q => by omega)] at h
      exact h
    · skip
      refine e_iinc (lsn := [(3, _), (0, _), (1, _), (2, _)]) 66 dX12_keyAt_63 rfl (by decide) rfl rfl ?_
      refine e_goto 15 dX12_keyAt_66 (by decide) ?_
      refine e_ldcS 17 (i := 20) (by decide) rfl rfl dX12_keyAt_15 rfl ?_
      refine e_iload_n (i := 2) 18 dX12_keyAt_17 rfl rfl rfl ?_
      refine e_iload_n (i := 3) 19 dX12_keyAt_18 rfl rfl rfl ?_
      refine e_iadd 20 dX12_keyAt_19 rfl ?_
      refine e_callF (av := [jI _]) 23 (i := 20) (by decide) mt_yJ_charAt mv_yJ_charAt wd_1410 (by decide) dX12_keyAt_20 rfl rfl rfl (Nat.le_of_ble_eq_true rfl) (jroom (by decide)) rfl (c_charAt (i := 20) (k := 65) (z := 111) (by decide) (by decide) (by decide +kernel) ?_)
      dsimp only [jpush]
      (try simp (disch := omega) only [put_r6, put_w6, put_r7, put_w7, put_r9, put_w9, put_r10, put_w10, put_r11, put_w11, put_r12, put_w12, put_r13, put_w13, put_r14, put_w14, put_r15, put_w15, put_ra, put_r8, put_r0, put_rt, put_wa, u1, u2, hn8])
      refine e_bipush 25 dX12_keyAt_23 (by decide) rfl ?_
      refine e_icmp_eq 28 69 dX12_keyAt_25 (by decide) (by decide) (by decide) rfl (fun h => absurd h (by decide)) (fun _ => ?_)
      refine e_aload_n (i := 0) 29 dX12_keyAt_28 rfl rfl rfl ?_
      refine e_geti (j := 6) 32 fl_12_97 dX12_keyAt_29 at_928 (by decide) rfl rfl (fun r29 => ?_)
      simp (disch := omega) only [put_r6, put_w6, put_r7, put_w7, put_r9, put_w9, put_r10, put_w10, put_r11, put_w11, put_r12, put_w12, put_r13, put_w13, put_r14, put_w14, put_r15, put_w15, put_ra, put_r8, put_r0, put_rt, put_wa, u1, u2, hn8] at r29 ⊢
      refine e_iload_n (i := 3) 33 dX12_keyAt_32 rfl rfl rfl ?_
      refine e_iadd 34 dX12_keyAt_33 rfl ?_
      refine e_aload_n (i := 0) 35 dX12_keyAt_34 rfl rfl rfl ?_
      refine e_geti (j := 7) 38 fl_12_100 dX12_keyAt_35 at_928 (by decide) rfl rfl (fun r35 => ?_)
      simp (disch := omega) only [put_r6, put_w6, put_r7, put_w7, put_r9, put_w9, put_r10, put_w10, put_r11, put_w11, put_r12, put_w12, put_r13, put_w13, put_r14, put_w14, put_r15, put_w15, put_ra, put_r8, put_r0, put_rt, put_wa, u1, u2, hn8] at r35 ⊢
      refine e_icmp_ge 41 69 dX12_keyAt_38 (by omega) (by omega) (by decide) rfl (fun b38 => ?_) (fun b38 => ?_)
      · skip
        refine e_ldcS 71 (i := 20) (by decide) rfl rfl dX12_keyAt_69 rfl ?_
        refine e_iload_n (i := 2) 72 dX12_keyAt_71 rfl rfl rfl ?_
        refine e_iload_n (i := 3) 73 dX12_keyAt_72 rfl rfl rfl ?_
        refine e_iadd 74 dX12_keyAt_73 rfl ?_
        refine e_callF (av := [jI _]) 77 (i := 20) (by decide) mt_yJ_charAt mv_yJ_charAt wd_1410 (by decide) dX12_keyAt_74 rfl rfl rfl (Nat.le_of_ble_eq_true rfl) (jroom (by decide)) rfl (c_charAt (i := 20) (k := 65) (z := 111) (by decide) (by decide) (by decide +kernel) ?_)
        dsimp only [jpush]
        (try simp (disch := omega) only [put_r6, put_w6, put_r7, put_w7, put_r9, put_w9, put_r10, put_w10, put_r11, put_w11, put_r12, put_w12, put_r13, put_w13, put_r14, put_w14, put_r15, put_w15, put_ra, put_r8, put_r0, put_rt, put_wa, u1, u2, hn8])
        refine e_bipush 79 dX12_keyAt_77 (by decide) rfl ?_
        refine e_icmp_ne 82 97 dX12_keyAt_79 (by decide) (by decide) (by decide) rfl (fun _ => ?_) (fun h => absurd h (by decide))
        refine e_ls (ls2 := [(0, _), (1, _), (2, _)]) rfl ?_
        refine sk_13 (kk_14 hT hp hb ?_)
        rw [kx13, if_neg (fun q => by omega)] at h
        exact h
      · skip
        refine e_aload_n (i := 0) 42 dX12_keyAt_41 rfl rfl rfl ?_
        refine e_getr (j := 3) 45 fl_12_21 dX12_keyAt_42 at_928 rfl rfl tp_928_3 rfl ?_
        refine e_aload_n (i := 0) 46 dX12_keyAt_45 rfl rfl rfl ?_
        refine e_geti (j := 6) 49 fl_12_97 dX12_keyAt_46 at_928 (by decide) rfl rfl (fun r46 => ?_)
        simp (disch := omega) only [put_r6, put_w6, put_r7, put_w7, put_r9, put_w9, put_r10, put_w10, put_r11, put_w11, put_r12, put_w12, put_r13, put_w13, put_r14, put_w14, put_r15, put_w15, put_ra, put_r8, put_r0, put_rt, put_wa, u1, u2, hn8] at r46 ⊢
        refine e_iload_n (i := 3) 50 dX12_keyAt_49 rfl rfl rfl ?_
        refine e_iadd 51 dX12_keyAt_50 rfl ?_
        refine e_iald 52 dX12_keyAt_51 ar_931 (by omega) (by omega) rfl (fun r51 => ?_)
        simp (disch := omega) only [put_r6, put_w6, put_r7, put_w7, put_r9, put_w9, put_r10, put_w10, put_r11, put_w11, put_r12, put_w12, put_r13, put_w13, put_r14, put_w14, put_r15, put_w15, put_ra, put_r8, put_r0, put_rt, put_wa, u1, u2, hn8, Int.reduceAdd, Int.add_zero] at r51 ⊢
        refine e_ldcS 54 (i := 20) (by decide) rfl rfl dX12_keyAt_52 rfl ?_
        refine e_iload_n (i := 2) 55 dX12_keyAt_54 rfl rfl rfl ?_
        refine e_iload_n (i := 3) 56 dX12_keyAt_55 rfl rfl rfl ?_
        refine e_iadd 57 dX12_keyAt_56 rfl ?_
        refine e_callF (av := [jI _]) 60 (i := 20) (by decide) mt_yJ_charAt mv_yJ_charAt wd_1410 (by decide) dX12_keyAt_57 rfl rfl rfl (Nat.le_of_ble_eq_true rfl) (jroom (by decide)) rfl (c_charAt (i := 20) (k := 65) (z := 111) (by decide) (by decide) (by decide +kernel) ?_)
        dsimp only [jpush]
        (try simp (disch := omega) only [put_r6, put_w6, put_r7, put_w7, put_r9, put_w9, put_r10, put_w10, put_r11, put_w11, put_r12, put_w12, put_r13, put_w13, put_r14, put_w14, put_r15, put_w15, put_ra, put_r8, put_r0, put_rt, put_wa, u1, u2, hn8])
        refine e_icmp_ne 63 69 dX12_keyAt_60 (by omega) (by decide) (by decide) rfl (fun b60 => ?_) (fun b60 => ?_)
        · skip
          refine e_ldcS 71 (i := 20) (by decide) rfl rfl dX12_keyAt_69 rfl ?_
          refine e_iload_n (i := 2) 72 dX12_keyAt_71 rfl rfl rfl ?_
          refine e_iload_n (i := 3) 73 dX12_keyAt_72 rfl rfl rfl ?_
          refine e_iadd 74 dX12_keyAt_73 rfl ?_
          refine e_callF (av := [jI _]) 77 (i := 20) (by decide) mt_yJ_charAt mv_yJ_charAt wd_1410 (by decide) dX12_keyAt_74 rfl rfl rfl (Nat.le_of_ble_eq_true rfl) (jroom (by decide)) rfl (c_charAt (i := 20) (k := 65) (z := 111) (by decide) (by decide) (by decide +kernel) ?_)
          dsimp only [jpush]
          (try simp (disch := omega) only [put_r6, put_w6, put_r7, put_w7, put_r9, put_w9, put_r10, put_w10, put_r11, put_w11, put_r12, put_w12, put_r13, put_w13, put_r14, put_w14, put_r15, put_w15, put_ra, put_r8, put_r0, put_rt, put_wa, u1, u2, hn8])
          refine e_bipush 79 dX12_keyAt_77 (by decide) rfl ?_
          refine e_icmp_ne 82 97 dX12_keyAt_79 (by decide) (by decide) (by decide) rfl (fun _ => ?_) (fun h => absurd h (by decide))
          refine e_ls (ls2 := [(0, _), (1, _), (2, _)]) rfl ?_
          refine sk_13 (kk_14 hT hp hb ?_)
          rw [kx13, if_neg (fun q => by omega)] at h
          exact h
        · skip
          refine e_iinc (lsn := [(3, _), (0, _), (1, _), (2, _)]) 66 dX12_keyAt_63 rfl (by decide) rfl rfl ?_
          refine e_goto 15 dX12_keyAt_66 (by decide) ?_
          refine e_ldcS 17 (i := 20) (by decide) rfl rfl dX12_keyAt_15 rfl ?_
          refine e_iload_n (i := 2) 18 dX12_keyAt_17 rfl rfl rfl ?_
          refine e_iload_n (i := 3) 19 dX12_keyAt_18 rfl rfl rfl ?_
          refine e_iadd 20 dX12_keyAt_19 rfl ?_
          refine e_callF (av := [jI _]) 23 (i := 20) (by decide) mt_yJ_charAt mv_yJ_charAt wd_1410 (by decide) dX12_keyAt_20 rfl rfl rfl (Nat.le_of_ble_eq_true rfl) (jroom (by decide)) rfl (c_charAt (i := 20) (k := 66) (z := 116) (by decide) (by decide) (by decide +kernel) ?_)
          dsimp only [jpush]
          (try simp (disch := omega) only [put_r6, put_w6, put_r7, put_w7, put_r9, put_w9, put_r10, put_w10, put_r11, put_w11, put_r12, put_w12, put_r13, put_w13, put_r14, put_w14, put_r15, put_w15, put_ra, put_r8, put_r0, put_rt, put_wa, u1, u2, hn8])
          refine e_bipush 25 dX12_keyAt_23 (by decide) rfl ?_
          refine e_icmp_eq 28 69 dX12_keyAt_25 (by decide) (by decide) (by decide) rfl (fun h => absurd h (by decide)) (fun _ => ?_)
          refine e_aload_n (i := 0) 29 dX12_keyAt_28 rfl rfl rfl ?_
          refine e_geti (j := 6) 32 fl_12_97 dX12_keyAt_29 at_928 (by decide) rfl rfl (fun r29 => ?_)
          simp (disch := omega) only [put_r6, put_w6, put_r7, put_w7, put_r9, put_w9, put_r10, put_w10, put_r11, put_w11, put_r12, put_w12, put_r13, put_w13, put_r14, put_w14, put_r15, put_w15, put_ra, put_r8, put_r0, put_rt, put_wa, u1, u2, hn8] at r29 ⊢
          refine e_iload_n (i := 3) 33 dX12_keyAt_32 rfl rfl rfl ?_
          refine e_iadd 34 dX12_keyAt_33 rfl ?_
          refine e_aload_n (i := 0) 35 dX12_keyAt_34 rfl rfl rfl ?_
          refine e_geti (j := 7) 38 fl_12_100 dX12_keyAt_35 at_928 (by decide) rfl rfl (fun r35 => ?_)
          simp (disch := omega) only [put_r6, put_w6, put_r7, put_w7, put_r9, put_w9, put_r10, put_w10, put_r11, put_w11, put_r12, put_w12, put_r13, put_w13, put_r14, put_w14, put_r15, put_w15, put_ra, put_r8, put_r0, put_rt, put_wa, u1, u2, hn8] at r35 ⊢
          refine e_icmp_ge 41 69 dX12_keyAt_38 (by omega) (by omega) (by decide) rfl (fun b38 => ?_) (fun b38 => ?_)
          · skip
            refine e_ldcS 71 (i := 20) (by decide) rfl rfl dX12_keyAt_69 rfl ?_
            refine e_iload_n (i := 2) 72 dX12_keyAt_71 rfl rfl rfl ?_
            refine e_iload_n (i := 3) 73 dX12_keyAt_72 rfl rfl rfl ?_
            refine e_iadd 74 dX12_keyAt_73 rfl ?_
            refine e_callF (av := [jI _]) 77 (i := 20) (by decide) mt_yJ_charAt mv_yJ_charAt wd_1410 (by decide) dX12_keyAt_74 rfl rfl rfl (Nat.le_of_ble_eq_true rfl) (jroom (by decide)) rfl (c_charAt (i := 20) (k := 66) (z := 116) (by decide) (by decide) (by decide +kernel) ?_)
            dsimp only [jpush]
            (try simp (disch := omega) only [put_r6, put_w6, put_r7, put_w7, put_r9, put_w9, put_r10, put_w10, put_r11, put_w11, put_r12, put_w12, put_r13, put_w13, put_r14, put_w14, put_r15, put_w15, put_ra, put_r8, put_r0, put_rt, put_wa, u1, u2, hn8])
            refine e_bipush 79 dX12_keyAt_77 (by decide) rfl ?_
            refine e_icmp_ne 82 97 dX12_keyAt_79 (by decide) (by decide) (by decide) rfl (fun _ => ?_) (fun h => absurd h (by decide))
            refine e_ls (ls2 := [(0, _), (1, _), (2, _)]) rfl ?_
            refine sk_13 (kk_14 hT hp hb ?_)
            rw [kx13, if_neg (fun q => by omega)] at h
            exact h
          · skip
            refine e_aload_n (i := 0) 42 dX12_keyAt_41 rfl rfl rfl ?_
            refine e_getr (j := 3) 45 fl_12_21 dX12_keyAt_42 at_928 rfl rfl tp_928_3 rfl ?_
            refine e_aload_n (i := 0) 46 dX12_keyAt_45 rfl rfl rfl ?_
            refine e_geti (j := 6) 49 fl_12_97 dX12_keyAt_46 at_928 (by decide) rfl rfl (fun r46 => ?_)
            simp (disch := omega) only [put_r6, put_w6, put_r7, put_w7, put_r9, put_w9, put_r10, put_w10, put_r11, put_w11, put_r12, put_w12, put_r13, put_w13, put_r14, put_w14, put_r15, put_w15, put_ra, put_r8, put_r0, put_rt, put_wa, u1, u2, hn8] at r46 ⊢
            refine e_iload_n (i := 3) 50 dX12_keyAt_49 rfl rfl rfl ?_
            refine e_iadd 51 dX12_keyAt_50 rfl ?_
            refine e_iald 52 dX12_keyAt_51 ar_931 (by omega) (by omega) rfl (fun r51 => ?_)
            simp (disch := omega) only [put_r6, put_w6, put_r7, put_w7, put_r9, put_w9, put_r10, put_w10, put_r11, put_w11, put_r12, put_w12, put_r13, put_w13, put_r14, put_w14, put_r15, put_w15, put_ra, put_r8, put_r0, put_rt, put_wa, u1, u2, hn8, Int.reduceAdd, Int.add_zero] at r51 ⊢
            refine e_ldcS 54 (i := 20) (by decide) rfl rfl dX12_keyAt_52 rfl ?_
            refine e_iload_n (i := 2) 55 dX12_keyAt_54 rfl rfl rfl ?_
            refine e_iload_n (i := 3) 56 dX12_keyAt_55 rfl rfl rfl ?_
            refine e_iadd 57 dX12_keyAt_56 rfl ?_
            refine e_callF (av := [jI _]) 60 (i := 20) (by decide) mt_yJ_charAt mv_yJ_charAt wd_1410 (by decide) dX12_keyAt_57 rfl rfl rfl (Nat.le_of_ble_eq_true rfl) (jroom (by decide)) rfl (c_charAt (i := 20) (k := 66) (z := 116) (by decide) (by decide) (by decide +kernel) ?_)
            dsimp only [jpush]
            (try simp (disch := omega) only [put_r6, put_w6, put_r7, put_w7, put_r9, put_w9, put_r10, put_w10, put_r11, put_w11, put_r12, put_w12, put_r13, put_w13, put_r14, put_w14, put_r15, put_w15, put_ra, put_r8, put_r0, put_rt, put_wa, u1, u2, hn8])
            refine e_icmp_ne 63 69 dX12_keyAt_60 (by omega) (by decide) (by decide) rfl (fun b60 => ?_) (fun b60 => ?_)
            · skip
              refine e_ldcS 71 (i := 20) (by decide) rfl rfl dX12_keyAt_69 rfl ?_
              refine e_iload_n (i := 2) 72 dX12_keyAt_71 rfl rfl rfl ?_
              refine e_iload_n (i := 3) 73 dX12_keyAt_72 rfl rfl rfl ?_
              refine e_iadd 74 dX12_keyAt_73 rfl ?_
              refine e_callF (av := [jI _]) 77 (i := 20) (by decide) mt_yJ_charAt mv_yJ_charAt wd_1410 (by decide) dX12_keyAt_74 rfl rfl rfl (Nat.le_of_ble_eq_true rfl) (jroom (by decide)) rfl (c_charAt (i := 20) (k := 66) (z := 116) (by decide) (by decide) (by decide +kernel) ?_)
              dsimp only [jpush]
              (try simp (disch := omega) only [put_r6, put_w6, put_r7, put_w7, put_r9, put_w9, put_r10, put_w10, put_r11, put_w11, put_r12, put_w12, put_r13, put_w13, put_r14, put_w14, put_r15, put_w15, put_ra, put_r8, put_r0, put_rt, put_wa, u1, u2, hn8])
              refine e_bipush 79 dX12_keyAt_77 (by decide) rfl ?_
              refine e_icmp_ne 82 97 dX12_keyAt_79 (by decide) (by decide) (by decide) rfl (fun _ => ?_) (fun h => absurd h (by decide))
              refine e_ls (ls2 := [(0, _), (1, _), (2, _)]) rfl ?_
              refine sk_13 (kk_14 hT hp hb ?_)
              rw [kx13, if_neg (fun q => by omega)] at h
              exact h
            · skip
              refine e_iinc (lsn := [(3, _), (0, _), (1, _), (2, _)]) 66 dX12_keyAt_63 rfl (by decide) rfl rfl ?_
              refine e_goto 15 dX12_keyAt_66 (by decide) ?_
              refine e_ldcS 17 (i := 20) (by decide) rfl rfl dX12_keyAt_15 rfl ?_
              refine e_iload_n (i := 2) 18 dX12_keyAt_17 rfl rfl rfl ?_
              refine e_iload_n (i := 3) 19 dX12_keyAt_18 rfl rfl rfl ?_
              refine e_iadd 20 dX12_keyAt_19 rfl ?_
              refine e_callF (av := [jI _]) 23 (i := 20) (by decide) mt_yJ_charAt mv_yJ_charAt wd_1410 (by decide) dX12_keyAt_20 rfl rfl rfl (Nat.le_of_ble_eq_true rfl) (jroom (by decide)) rfl (c_charAt (i := 20) (k := 67) (z := 32) (by decide) (by decide) (by decide +kernel) ?_)
              dsimp only [jpush]
              (try simp (disch := omega) only [put_r6, put_w6, put_r7, put_w7, put_r9, put_w9, put_r10, put_w10, put_r11, put_w11, put_r12, put_w12, put_r13, put_w13, put_r14, put_w14, put_r15, put_w15, put_ra, put_r8, put_r0, put_rt, put_wa, u1, u2, hn8])
              refine e_bipush 25 dX12_keyAt_23 (by decide) rfl ?_
              refine e_icmp_eq 28 69 dX12_keyAt_25 (by decide) (by decide) (by decide) rfl (fun _ => ?_) (fun h => absurd h (by decide))
              refine e_ldcS 71 (i := 20) (by decide) rfl rfl dX12_keyAt_69 rfl ?_
              refine e_iload_n (i := 2) 72 dX12_keyAt_71 rfl rfl rfl ?_
              refine e_iload_n (i := 3) 73 dX12_keyAt_72 rfl rfl rfl ?_
              refine e_iadd 74 dX12_keyAt_73 rfl ?_
              refine e_callF (av := [jI _]) 77 (i := 20) (by decide) mt_yJ_charAt mv_yJ_charAt wd_1410 (by decide) dX12_keyAt_74 rfl rfl rfl (Nat.le_of_ble_eq_true rfl) (jroom (by decide)) rfl (c_charAt (i := 20) (k := 67) (z := 32) (by decide) (by decide) (by decide +kernel) ?_)
              dsimp only [jpush]
              (try simp (disch := omega) only [put_r6, put_w6, put_r7, put_w7, put_r9, put_w9, put_r10, put_w10, put_r11, put_w11, put_r12, put_w12, put_r13, put_w13, put_r14, put_w14, put_r15, put_w15, put_ra, put_r8, put_r0, put_rt, put_wa, u1, u2, hn8])
              refine e_bipush 79 dX12_keyAt_77 (by decide) rfl ?_
              refine e_icmp_ne 82 97 dX12_keyAt_79 (by decide) (by decide) (by decide) rfl (fun h => absurd h (by decide)) (fun _ => ?_)
              refine e_aload_n (i := 0) 83 dX12_keyAt_82 rfl rfl rfl ?_
              refine e_geti (j := 6) 86 fl_12_97 dX12_keyAt_83 at_928 (by decide) rfl rfl (fun r83 => ?_)
              simp (disch := omega) only [put_r6, put_w6, put_r7, put_w7, put_r9, put_w9, put_r10, put_w10, put_r11, put_w11, put_r12, put_w12, put_r13, put_w13, put_r14, put_w14, put_r15, put_w15, put_ra, put_r8, put_r0, put_rt, put_wa, u1, u2, hn8] at r83 ⊢
              refine e_iload_n (i := 3) 87 dX12_keyAt_86 rfl rfl rfl ?_
              refine e_iadd 88 dX12_keyAt_87 rfl ?_
              refine e_aload_n (i := 0) 89 dX12_keyAt_88 rfl rfl rfl ?_
              refine e_geti (j := 7) 92 fl_12_100 dX12_keyAt_89 at_928 (by decide) rfl rfl (fun r89 => ?_)
              simp (disch := omega) only [put_r6, put_w6, put_r7, put_w7, put_r9, put_w9, put_r10, put_w10, put_r11, put_w11, put_r12, put_w12, put_r13, put_w13, put_r14, put_w14, put_r15, put_w15, put_ra, put_r8, put_r0, put_rt, put_wa, u1, u2, hn8] at r89 ⊢
              refine e_icmp_ne 95 97 dX12_keyAt_92 (by omega) (by omega) (by decide) rfl (fun b92 => ?_) (fun b92 => ?_)
              · skip
                refine e_ls (ls2 := [(0, _), (1, _), (2, _)]) rfl ?_
                refine sk_13 (kk_14 hT hp hb ?_)
                rw [kx13, if_neg (fun q => by omega)] at h
                exact h
              · skip
                refine e_iload_n (i := 1) 96 dX12_keyAt_95 rfl rfl rfl ?_
                refine e_iret dX12_keyAt_96 ?_
                rw [kx13, if_pos (by omega)] at h
                exact h

theorem sk_12 {X : jX} {Y : jM} {Q : Int → jM → Prop} (h : jE X yX12_keyAt cX12_keyAt 4 (some .int) 5 Q Y 4 [(0, jR 928), (1, jI 13), (2, jI 64)] []) : jE X yX12_keyAt cX12_keyAt 4 (some .int) 5 Q Y 97 [(0, jR 928), (1, jI 12), (2, jI 60)] [] := by
  refine e_ldcS 99 (i := 20) (by decide) rfl rfl dX12_keyAt_97 rfl ?_
  refine e_iload_n (i := 2) 100 dX12_keyAt_99 rfl rfl rfl ?_
  refine e_callF (av := [jI _]) 103 (i := 20) (by decide) mt_yJ_charAt mv_yJ_charAt wd_1410 (by decide) dX12_keyAt_100 rfl rfl rfl (Nat.le_of_ble_eq_true rfl) (jroom (by decide)) rfl (c_charAt (i := 20) (k := 60) (z := 97) (by decide) (by decide) (by decide +kernel) ?_)
  dsimp only [jpush]
  refine e_bipush 105 dX12_keyAt_103 (by decide) rfl ?_
  refine e_icmp_eq 108 114 dX12_keyAt_105 (by decide) (by decide) (by decide) rfl (fun h => absurd h (by decide)) (fun _ => ?_)
  refine e_iinc (lsn := [(2, _), (0, _), (1, _)]) 111 dX12_keyAt_108 rfl (by decide) rfl rfl ?_
  refine e_goto 97 dX12_keyAt_111 (by decide) ?_
  refine e_ldcS 99 (i := 20) (by decide) rfl rfl dX12_keyAt_97 rfl ?_
  refine e_iload_n (i := 2) 100 dX12_keyAt_99 rfl rfl rfl ?_
  refine e_callF (av := [jI _]) 103 (i := 20) (by decide) mt_yJ_charAt mv_yJ_charAt wd_1410 (by decide) dX12_keyAt_100 rfl rfl rfl (Nat.le_of_ble_eq_true rfl) (jroom (by decide)) rfl (c_charAt (i := 20) (k := 61) (z := 110) (by decide) (by decide) (by decide +kernel) ?_)
  dsimp only [jpush]
  refine e_bipush 105 dX12_keyAt_103 (by decide) rfl ?_
  refine e_icmp_eq 108 114 dX12_keyAt_105 (by decide) (by decide) (by decide) rfl (fun h => absurd h (by decide)) (fun _ => ?_)
  refine e_iinc (lsn := [(2, _), (0, _), (1, _)]) 111 dX12_keyAt_108 rfl (by decide) rfl rfl ?_
  refine e_goto 97 dX12_keyAt_111 (by decide) ?_
  refine e_ldcS 99 (i := 20) (by decide) rfl rfl dX12_keyAt_97 rfl ?_
  refine e_iload_n (i := 2) 100 dX12_keyAt_99 rfl rfl rfl ?_
  refine e_callF (av := [jI _]) 103 (i := 20) (by decide) mt_yJ_charAt mv_yJ_charAt wd_1410 (by decide) dX12_keyAt_100 rfl rfl rfl (Nat.le_of_ble_eq_true rfl) (jroom (by decide)) rfl (c_charAt (i := 20) (k := 62) (z := 100) (by decide) (by decide) (by decide +kernel) ?_)
  dsimp only [jpush]
  refine e_bipush 105 dX12_keyAt_103 (by decide) rfl ?_
  refine e_icmp_eq 108 114 dX12_keyAt_105 (by decide) (by decide) (by decide) rfl (fun h => absurd h (by decide)) (fun _ => ?_)
  refine e_iinc (lsn := [(2, _), (0, _), (1, _)]) 111 dX12_keyAt_108 rfl (by decide) rfl rfl ?_
  refine e_goto 97 dX12_keyAt_111 (by decide) ?_
  refine e_ldcS 99 (i := 20) (by decide) rfl rfl dX12_keyAt_97 rfl ?_
  refine e_iload_n (i := 2) 100 dX12_keyAt_99 rfl rfl rfl ?_
  refine e_callF (av := [jI _]) 103 (i := 20) (by decide) mt_yJ_charAt mv_yJ_charAt wd_1410 (by decide) dX12_keyAt_100 rfl rfl rfl (Nat.le_of_ble_eq_true rfl) (jroom (by decide)) rfl (c_charAt (i := 20) (k := 63) (z := 32) (by decide) (by decide) (by decide +kernel) ?_)
  dsimp only [jpush]
  refine e_bipush 105 dX12_keyAt_103 (by decide) rfl ?_
  refine e_icmp_eq 108 114 dX12_keyAt_105 (by decide) (by decide) (by decide) rfl (fun _ => ?_) (fun h => absurd h (by decide))
  refine e_iinc (lsn := [(2, _), (0, _), (1, _)]) 117 dX12_keyAt_114 rfl (by decide) rfl rfl ?_
  refine e_iinc (lsn := [(1, _), (2, _), (0, _)]) 120 dX12_keyAt_117 rfl (by decide) rfl rfl ?_
  refine e_goto 4 dX12_keyAt_120 (by decide) ?_
  refine e_ls (ls2 := [(0, _), (1, _), (2, _)]) rfl ?_
  exact h

theorem kk_12 {X : jX} {M : jM} {n : Int} {Q : Int → jM → Prop} (hT : RT M n) {s : PS} (hp : 0 ≤ s.1) (hb : s.1 ≤ s.2.1 ∧ s.2.1 ≤ n) (h : Q (kx12 (M 931) s.1 s.2.1) (put M s)) : jE X yX12_keyAt cX12_keyAt 4 (some .int) 5 Q (put M s) 4 [(0, jR 928), (1, jI 12), (2, jI 60)] [] := by
  have hn8 := hT.1
  have hn := hT.2.1
  refine e_iload_n (i := 2) 5 dX12_keyAt_4 rfl rfl rfl ?_
  refine e_ldcS 7 (i := 20) (by decide) rfl rfl dX12_keyAt_5 rfl ?_
  refine e_callF (av := []) 10 (i := 20) (by decide) mt_yJ_len mv_yJ_len wd_1409 (by decide) dX12_keyAt_7 rfl rfl rfl (Nat.le_of_ble_eq_true rfl) (jroom (by decide)) rfl (c_strlen (i := 20) (z := 99) (by decide) (by decide) ?_)
  dsimp only [jpush]
  (try simp (disch := omega) only [put_r6, put_w6, put_r7, put_w7, put_r9, put_w9, put_r10, put_w10, put_r11, put_w11, put_r12, put_w12, put_r13, put_w13, put_r14, put_w14, put_r15, put_w15, put_ra, put_r8, put_r0, put_rt, put_wa, u1, u2, hn8])
  refine e_icmp_ge 13 123 dX12_keyAt_10 (by decide) (by decide) (by decide) rfl (fun h => absurd h (by decide)) (fun _ => ?_)
  refine e_iconst 14 dX12_keyAt_13 rfl ?_
  refine e_istore_n (i := 3) (lsn := [(3, _), (0, _), (1, _), (2, _)]) 15 dX12_keyAt_14 rfl (by decide) rfl rfl ?_
  refine e_ldcS 17 (i := 20) (by decide) rfl rfl dX12_keyAt_15 rfl ?_
  refine e_iload_n (i := 2) 18 dX12_keyAt_17 rfl rfl rfl ?_
  refine e_iload_n (i := 3) 19 dX12_keyAt_18 rfl rfl rfl ?_
  refine e_iadd 20 dX12_keyAt_19 rfl ?_
  refine e_callF (av := [jI _]) 23 (i := 20) (by decide) mt_yJ_charAt mv_yJ_charAt wd_1410 (by decide) dX12_keyAt_20 rfl rfl rfl (Nat.le_of_ble_eq_true rfl) (jroom (by decide)) rfl (c_charAt (i := 20) (k := 60) (z := 97) (by decide) (by decide) (by decide +kernel) ?_)
  dsimp only [jpush]
  (try simp (disch := omega) only [put_r6, put_w6, put_r7, put_w7, put_r9, put_w9, put_r10, put_w10, put_r11, put_w11, put_r12, put_w12, put_r13, put_w13, put_r14, put_w14, put_r15, put_w15, put_ra, put_r8, put_r0, put_rt, put_wa, u1, u2, hn8])
  refine e_bipush 25 dX12_keyAt_23 (by decide) rfl ?_
  refine e_icmp_eq 28 69 dX12_keyAt_25 (by decide) (by decide) (by decide) rfl (fun h => absurd h (by decide)) (fun _ => ?_)
  refine e_aload_n (i := 0) 29 dX12_keyAt_28 rfl rfl rfl ?_
  refine e_geti (j := 6) 32 fl_12_97 dX12_keyAt_29 at_928 (by decide) rfl rfl (fun r29 => ?_)
  simp (disch := omega) only [put_r6, put_w6, put_r7, put_w7, put_r9, put_w9, put_r10, put_w10, put_r11, put_w11, put_r12, put_w12, put_r13, put_w13, put_r14, put_w14, put_r15, put_w15, put_ra, put_r8, put_r0, put_rt, put_wa, u1, u2, hn8] at r29 ⊢
  refine e_iload_n (i := 3) 33 dX12_keyAt_32 rfl rfl rfl ?_
  refine e_iadd 34 dX12_keyAt_33 rfl ?_
  refine e_aload_n (i := 0) 35 dX12_keyAt_34 rfl rfl rfl ?_
  refine e_geti (j := 7) 38 fl_12_100 dX12_keyAt_35 at_928 (by decide) rfl rfl (fun r35 => ?_)
  simp (disch := omega) only [put_r6, put_w6, put_r7, put_w7, put_r9, put_w9, put_r10, put_w10, put_r11, put_w11, put_r12, put_w12, put_r13, put_w13, put_r14, put_w14, put_r15, put_w15, put_ra, put_r8, put_r0, put_rt, put_wa, u1, u2, hn8] at r35 ⊢
  refine e_icmp_ge 41 69 dX12_keyAt_38 (by omega) (by omega) (by decide) rfl (fun b38 => ?_) (fun b38 => ?_)
  · skip
    refine e_ldcS 71 (i := 20) (by decide) rfl rfl dX12_keyAt_69 rfl ?_
    refine e_iload_n (i := 2) 72 dX12_keyAt_71 rfl rfl rfl ?_
    refine e_iload_n (i := 3) 73 dX12_keyAt_72 rfl rfl rfl ?_
    refine e_iadd 74 dX12_keyAt_73 rfl ?_
    refine e_callF (av := [jI _]) 77 (i := 20) (by decide) mt_yJ_charAt mv_yJ_charAt wd_1410 (by decide) dX12_keyAt_74 rfl rfl rfl (Nat.le_of_ble_eq_true rfl) (jroom (by decide)) rfl (c_charAt (i := 20) (k := 60) (z := 97) (by decide) (by decide) (by decide +kernel) ?_)
    dsimp only [jpush]
    (try simp (disch := omega) only [put_r6, put_w6, put_r7, put_w7, put_r9, put_w9, put_r10, put_w10, put_r11, put_w11, put_r12, put_w12, put_r13, put_w13, put_r14, put_w14, put_r15, put_w15, put_ra, put_r8, put_r0, put_rt, put_wa, u1, u2, hn8])
    refine e_bipush 79 dX12_keyAt_77 (by decide) rfl ?_
    refine e_icmp_ne 82 97 dX12_keyAt_79 (by decide) (by decide) (by decide) rfl (fun _ => ?_) (fun h => absurd h (by decide))
    refine e_ls (ls2 := [(0, _), (1, _), (2, _)]) rfl ?_
    refine sk_12 (kk_13 hT hp hb ?_)
    rw [kx12, if_neg (fun q => by omega)] at h
    exact h
  · skip
    refine e_aload_n (i := 0) 42 dX12_keyAt_41 rfl rfl rfl ?_
    refine e_getr (j := 3) 45 fl_12_21 dX12_keyAt_42 at_928 rfl rfl tp_928_3 rfl ?_
    refine e_aload_n (i := 0) 46 dX12_keyAt_45 rfl rfl rfl ?_
    refine e_geti (j := 6) 49 fl_12_97 dX12_keyAt_46 at_928 (by decide) rfl rfl (fun r46 => ?_)
    simp (disch := omega) only [put_r6, put_w6, put_r7, put_w7, put_r9, put_w9, put_r10, put_w10, put_r11, put_w11, put_r12, put_w12, put_r13, put_w13, put_r14, put_w14, put_r15, put_w15, put_ra, put_r8, put_r0, put_rt, put_wa, u1, u2, hn8] at r46 ⊢
    refine e_iload_n (i := 3) 50 dX12_keyAt_49 rfl rfl rfl ?_
    refine e_iadd 51 dX12_keyAt_50 rfl ?_
    refine e_iald 52 dX12_keyAt_51 ar_931 (by omega) (by omega) rfl (fun r51 => ?_)
    simp (disch := omega) only [put_r6, put_w6, put_r7, put_w7, put_r9, put_w9, put_r10, put_w10, put_r11, put_w11, put_r12, put_w12, put_r13, put_w13, put_r14, put_w14, put_r15, put_w15, put_ra, put_r8, put_r0, put_rt, put_wa, u1, u2, hn8, Int.reduceAdd, Int.add_zero] at r51 ⊢
    refine e_ldcS 54 (i := 20) (by decide) rfl rfl dX12_keyAt_52 rfl ?_
    refine e_iload_n (i := 2) 55 dX12_keyAt_54 rfl rfl rfl ?_
    refine e_iload_n (i := 3) 56 dX12_keyAt_55 rfl rfl rfl ?_
    refine e_iadd 57 dX12_keyAt_56 rfl ?_
    refine e_callF (av := [jI _]) 60 (i := 20) (by decide) mt_yJ_charAt mv_yJ_charAt wd_1410 (by decide) dX12_keyAt_57 rfl rfl rfl (Nat.le_of_ble_eq_true rfl) (jroom (by decide)) rfl (c_charAt (i := 20) (k := 60) (z := 97) (by decide) (by decide) (by decide +kernel) ?_)
    dsimp only [jpush]
    (try simp (disch := omega) only [put_r6, put_w6, put_r7, put_w7, put_r9, put_w9, put_r10, put_w10, put_r11, put_w11, put_r12, put_w12, put_r13, put_w13, put_r14, put_w14, put_r15, put_w15, put_ra, put_r8, put_r0, put_rt, put_wa, u1, u2, hn8])
    refine e_icmp_ne 63 69 dX12_keyAt_60 (by omega) (by decide) (by decide) rfl (fun b60 => ?_) (fun b60 => ?_)
    · skip
      refine e_ldcS 71 (i := 20) (by decide) rfl rfl dX12_keyAt_69 rfl ?_
      refine e_iload_n (i := 2) 72 dX12_keyAt_71 rfl rfl rfl ?_
      refine e_iload_n (i := 3) 73 dX12_keyAt_72 rfl rfl rfl ?_
      refine e_iadd 74 dX12_keyAt_73 rfl ?_
      refine e_callF (av := [jI _]) 77 (i := 20) (by decide) mt_yJ_charAt mv_yJ_charAt wd_1410 (by decide) dX12_keyAt_74 rfl rfl rfl (Nat.le_of_ble_eq_true rfl) (jroom (by decide)) rfl (c_charAt (i := 20) (k := 60) (z := 97) (by decide) (by decide) (by decide +kernel) ?_)
      dsimp only [jpush]
      (try simp (disch := omega) only [put_r6, put_w6, put_r7, put_w7, put_r9, put_w9, put_r10, put_w10, put_r11, put_w11, put_r12, put_w12, put_r13, put_w13, put_r14, put_w14, put_r15, put_w15, put_ra, put_r8, put_r0, put_rt, put_wa, u1, u2, hn8])
      refine e_bipush 79 dX12_keyAt_77 (by decide) rfl ?_
      refine e_icmp_ne 82 97 dX12_keyAt_79 (by decide) (by decide) (by decide) rfl (fun _ => ?_) (fun h => absurd h (by decide))
      refine e_ls (ls2 := [(0, _), (1, _), (2, _)]) rfl ?_
      refine sk_12 (kk_13 hT hp hb ?_)
      rw [kx12, if_neg (fun q => by omega)] at h
      exact h
    · skip
      refine e_iinc (lsn := [(3, _), (0, _), (1, _), (2, _)]) 66 dX12_keyAt_63 rfl (by decide) rfl rfl ?_
      refine e_goto 15 dX12_keyAt_66 (by decide) ?_
      refine e_ldcS 17 (i := 20) (by decide) rfl rfl dX12_keyAt_15 rfl ?_
      refine e_iload_n (i := 2) 18 dX12_keyAt_17 rfl rfl rfl ?_
      refine e_iload_n (i := 3) 19 dX12_keyAt_18 rfl rfl rfl ?_
      refine e_iadd 20 dX12_keyAt_19 rfl ?_
      refine e_callF (av := [jI _]) 23 (i := 20) (by decide) mt_yJ_charAt mv_yJ_charAt wd_1410 (by decide) dX12_keyAt_20 rfl rfl rfl (Nat.le_of_ble_eq_true rfl) (jroom (by decide)) rfl (c_charAt (i := 20) (k := 61) (z := 110) (by decide) (by decide) (by decide +kernel) ?_)
      dsimp only [jpush]
      (try simp (disch := omega) only [put_r6, put_w6, put_r7, put_w7, put_r9, put_w9, put_r10, put_w10, put_r11, put_w11, put_r12, put_w12, put_r13, put_w13, put_r14, put_w14, put_r15, put_w15, put_ra, put_r8, put_r0, put_rt, put_wa, u1, u2, hn8])
      refine e_bipush 25 dX12_keyAt_23 (by decide) rfl ?_
      refine e_icmp_eq 28 69 dX12_keyAt_25 (by decide) (by decide) (by decide) rfl (fun h => absurd h (by decide)) (fun _ => ?_)
      refine e_aload_n (i := 0) 29 dX12_keyAt_28 rfl rfl rfl ?_
      refine e_geti (j := 6) 32 fl_12_97 dX12_keyAt_29 at_928 (by decide) rfl rfl (fun r29 => ?_)
      simp (disch := omega) only [put_r6, put_w6, put_r7, put_w7, put_r9, put_w9, put_r10, put_w10, put_r11, put_w11, put_r12, put_w12, put_r13, put_w13, put_r14, put_w14, put_r15, put_w15, put_ra, put_r8, put_r0, put_rt, put_wa, u1, u2, hn8] at r29 ⊢
      refine e_iload_n (i := 3) 33 dX12_keyAt_32 rfl rfl rfl ?_
      refine e_iadd 34 dX12_keyAt_33 rfl ?_
      refine e_aload_n (i := 0) 35 dX12_keyAt_34 rfl rfl rfl ?_
      refine e_geti (j := 7) 38 fl_12_100 dX12_keyAt_35 at_928 (by decide) rfl rfl (fun r35 => ?_)
      simp (disch := omega) only [put_r6, put_w6, put_r7, put_w7, put_r9, put_w9, put_r10, put_w10, put_r11, put_w11, put_r12, put_w12, put_r13, put_w13, put_r14, put_w14, put_r15, put_w15, put_ra, put_r8, put_r0, put_rt, put_wa, u1, u2, hn8] at r35 ⊢
      refine e_icmp_ge 41 69 dX12_keyAt_38 (by omega) (by omega) (by decide) rfl (fun b38 => ?_) (fun b38 => ?_)
      · skip
        refine e_ldcS 71 (i := 20) (by decide) rfl rfl dX12_keyAt_69 rfl ?_
        refine e_iload_n (i := 2) 72 dX12_keyAt_71 rfl rfl rfl ?_
        refine e_iload_n (i := 3) 73 dX12_keyAt_72 rfl rfl rfl ?_
        refine e_iadd 74 dX12_keyAt_73 rfl ?_
        refine e_callF (av := [jI _]) 77 (i := 20) (by decide) mt_yJ_charAt mv_yJ_charAt wd_1410 (by decide) dX12_keyAt_74 rfl rfl rfl (Nat.le_of_ble_eq_true rfl) (jroom (by decide)) rfl (c_charAt (i := 20) (k := 61) (z := 110) (by decide) (by decide) (by decide +kernel) ?_)
        dsimp only [jpush]
        (try simp (disch := omega) only [put_r6, put_w6, put_r7, put_w7, put_r9, put_w9, put_r10, put_w10, put_r11, put_w11, put_r12, put_w12, put_r13, put_w13, put_r14, put_w14, put_r15, put_w15, put_ra, put_r8, put_r0, put_rt, put_wa, u1, u2, hn8])
        refine e_bipush 79 dX12_keyAt_77 (by decide) rfl ?_
        refine e_icmp_ne 82 97 dX12_keyAt_79 (by decide) (by decide) (by decide) rfl (fun _ => ?_) (fun h => absurd h (by decide))
        refine e_ls (ls2 := [(0, _), (1, _), (2, _)]) rfl ?_
        refine sk_12 (kk_13 hT hp hb ?_)
        rw [kx12, if_neg (fun q => by omega)] at h
        exact h
      · skip
        refine e_aload_n (i := 0) 42 dX12_keyAt_41 rfl rfl rfl ?_
        refine e_getr (j := 3) 45 fl_12_21 dX12_keyAt_42 at_928 rfl rfl tp_928_3 rfl ?_
        refine e_aload_n (i := 0) 46 dX12_keyAt_45 rfl rfl rfl ?_
        refine e_geti (j := 6) 49 fl_12_97 dX12_keyAt_46 at_928 (by decide) rfl rfl (fun r46 => ?_)
        simp (disch := omega) only [put_r6, put_w6, put_r7, put_w7, put_r9, put_w9, put_r10, put_w10, put_r11, put_w11, put_r12, put_w12, put_r13, put_w13, put_r14, put_w14, put_r15, put_w15, put_ra, put_r8, put_r0, put_rt, put_wa, u1, u2, hn8] at r46 ⊢
        refine e_iload_n (i := 3) 50 dX12_keyAt_49 rfl rfl rfl ?_
        refine e_iadd 51 dX12_keyAt_50 rfl ?_
        refine e_iald 52 dX12_keyAt_51 ar_931 (by omega) (by omega) rfl (fun r51 => ?_)
        simp (disch := omega) only [put_r6, put_w6, put_r7, put_w7, put_r9, put_w9, put_r10, put_w10, put_r11, put_w11, put_r12, put_w12, put_r13, put_w13, put_r14, put_w14, put_r15, put_w15, put_ra, put_r8, put_r0, put_rt, put_wa, u1, u2, hn8, Int.reduceAdd, Int.add_zero] at r51 ⊢
        refine e_ldcS 54 (i := 20) (by decide) rfl rfl dX12_keyAt_52 rfl ?_
        refine e_iload_n (i := 2) 55 dX12_keyAt_54 rfl rfl rfl ?_
        refine e_iload_n (i := 3) 56 dX12_keyAt_55 rfl rfl rfl ?_
        refine e_iadd 57 dX12_keyAt_56 rfl ?_
        refine e_callF (av := [jI _]) 60 (i := 20) (by decide) mt_yJ_charAt mv_yJ_charAt wd_1410 (by decide) dX12_keyAt_57 rfl rfl rfl (Nat.le_of_ble_eq_true rfl) (jroom (by decide)) rfl (c_charAt (i := 20) (k := 61) (z := 110) (by decide) (by decide) (by decide +kernel) ?_)
        dsimp only [jpush]
        (try simp (disch := omega) only [put_r6, put_w6, put_r7, put_w7, put_r9, put_w9, put_r10, put_w10, put_r11, put_w11, put_r12, put_w12, put_r13, put_w13, put_r14, put_w14, put_r15, put_w15, put_ra, put_r8, put_r0, put_rt, put_wa, u1, u2, hn8])
        refine e_icmp_ne 63 69 dX12_keyAt_60 (by omega) (by decide) (by decide) rfl (fun b60 => ?_) (fun b60 => ?_)
        · skip
          refine e_ldcS 71 (i := 20) (by decide) rfl rfl dX12_keyAt_69 rfl ?_
          refine e_iload_n (i := 2) 72 dX12_keyAt_71 rfl rfl rfl ?_
          refine e_iload_n (i := 3) 73 dX12_keyAt_72 rfl rfl rfl ?_
          refine e_iadd 74 dX12_keyAt_73 rfl ?_
          refine e_callF (av := [jI _]) 77 (i := 20) (by decide) mt_yJ_charAt mv_yJ_charAt wd_1410 (by decide) dX12_keyAt_74 rfl rfl rfl (Nat.le_of_ble_eq_true rfl) (jroom (by decide)) rfl (c_charAt (i := 20) (k := 61) (z := 110) (by decide) (by decide) (by decide +kernel) ?_)
          dsimp only [jpush]
          (try simp (disch := omega) only [put_r6, put_w6, put_r7, put_w7, put_r9, put_w9, put_r10, put_w10, put_r11, put_w11, put_r12, put_w12, put_r13, put_w13, put_r14, put_w14, put_r15, put_w15, put_ra, put_r8, put_r0, put_rt, put_wa, u1, u2, hn8])
          refine e_bipush 79 dX12_keyAt_77 (by decide) rfl ?_
          refine e_icmp_ne 82 97 dX12_keyAt_79 (by decide) (by decide) (by decide) rfl (fun _ => ?_) (fun h => absurd h (by decide))
          refine e_ls (ls2 := [(0, _), (1, _), (2, _)]) rfl ?_
          refine sk_12 (kk_13 hT hp hb ?_)
          rw [kx12, if_neg (fun q => by omega)] at h
          exact h
        · skip
          refine e_iinc (lsn := [(3, _), (0, _), (1, _), (2, _)]) 66 dX12_keyAt_63 rfl (by decide) rfl rfl ?_
          refine e_goto 15 dX12_keyAt_66 (by decide) ?_
          refine e_ldcS 17 (i := 20) (by decide) rfl rfl dX12_keyAt_15 rfl ?_
          refine e_iload_n (i := 2) 18 dX12_keyAt_17 rfl rfl rfl ?_
          refine e_iload_n (i := 3) 19 dX12_keyAt_18 rfl rfl rfl ?_
          refine e_iadd 20 dX12_keyAt_19 rfl ?_
          refine e_callF (av := [jI _]) 23 (i := 20) (by decide) mt_yJ_charAt mv_yJ_charAt wd_1410 (by decide) dX12_keyAt_20 rfl rfl rfl (Nat.le_of_ble_eq_true rfl) (jroom (by decide)) rfl (c_charAt (i := 20) (k := 62) (z := 100) (by decide) (by decide) (by decide +kernel) ?_)
          dsimp only [jpush]
          (try simp (disch := omega) only [put_r6, put_w6, put_r7, put_w7, put_r9, put_w9, put_r10, put_w10, put_r11, put_w11, put_r12, put_w12, put_r13, put_w13, put_r14, put_w14, put_r15, put_w15, put_ra, put_r8, put_r0, put_rt, put_wa, u1, u2, hn8])
          refine e_bipush 25 dX12_keyAt_23 (by decide) rfl ?_
          refine e_icmp_eq 28 69 dX12_keyAt_25 (by decide) (by decide) (by decide) rfl (fun h => absurd h (by decide)) (fun _ => ?_)
          refine e_aload_n (i := 0) 29 dX12_keyAt_28 rfl rfl rfl ?_
          refine e_geti (j := 6) 32 fl_12_97 dX12_keyAt_29 at_928 (by decide) rfl rfl (fun r29 => ?_)
          simp (disch := omega) only [put_r6, put_w6, put_r7, put_w7, put_r9, put_w9, put_r10, put_w10, put_r11, put_w11, put_r12, put_w12, put_r13, put_w13, put_r14, put_w14, put_r15, put_w15, put_ra, put_r8, put_r0, put_rt, put_wa, u1, u2, hn8] at r29 ⊢
          refine e_iload_n (i := 3) 33 dX12_keyAt_32 rfl rfl rfl ?_
          refine e_iadd 34 dX12_keyAt_33 rfl ?_
          refine e_aload_n (i := 0) 35 dX12_keyAt_34 rfl rfl rfl ?_
          refine e_geti (j := 7) 38 fl_12_100 dX12_keyAt_35 at_928 (by decide) rfl rfl (fun r35 => ?_)
          simp (disch := omega) only [put_r6, put_w6, put_r7, put_w7, put_r9, put_w9, put_r10, put_w10, put_r11, put_w11, put_r12, put_w12, put_r13, put_w13, put_r14, put_w14, put_r15, put_w15, put_ra, put_r8, put_r0, put_rt, put_wa, u1, u2, hn8] at r35 ⊢
          refine e_icmp_ge 41 69 dX12_keyAt_38 (by omega) (by omega) (by decide) rfl (fun b38 => ?_) (fun b38 => ?_)
          · skip
            refine e_ldcS 71 (i := 20) (by decide) rfl rfl dX12_keyAt_69 rfl ?_
            refine e_iload_n (i := 2) 72 dX12_keyAt_71 rfl rfl rfl ?_
            refine e_iload_n (i := 3) 73 dX12_keyAt_72 rfl rfl rfl ?_
            refine e_iadd 74 dX12_keyAt_73 rfl ?_
            refine e_callF (av := [jI _]) 77 (i := 20) (by decide) mt_yJ_charAt mv_yJ_charAt wd_1410 (by decide) dX12_keyAt_74 rfl rfl rfl (Nat.le_of_ble_eq_true rfl) (jroom (by decide)) rfl (c_charAt (i := 20) (k := 62) (z := 100) (by decide) (by decide) (by decide +kernel) ?_)
            dsimp only [jpush]
            (try simp (disch := omega) only [put_r6, put_w6, put_r7, put_w7, put_r9, put_w9, put_r10, put_w10, put_r11, put_w11, put_r12, put_w12, put_r13, put_w13, put_r14, put_w14, put_r15, put_w15, put_ra, put_r8, put_r0, put_rt, put_wa, u1, u2, hn8])
            refine e_bipush 79 dX12_keyAt_77 (by decide) rfl ?_
            refine e_icmp_ne 82 97 dX12_keyAt_79 (by decide) (by decide) (by decide) rfl (fun _ => ?_) (fun h => absurd h (by decide))
            refine e_ls (ls2 := [(0, _), (1, _), (2, _)]) rfl ?_
            refine sk_12 (kk_13 hT hp hb ?_)
            rw [kx12, if_neg (fun q => by omega)] at h
            exact h
          · skip
            refine e_aload_n (i := 0) 42 dX12_keyAt_41 rfl rfl rfl ?_
            refine e_getr (j := 3) 45 fl_12_21 dX12_keyAt_42 at_928 rfl rfl tp_928_3 rfl ?_
            refine e_aload_n (i := 0) 46 dX12_keyAt_45 rfl rfl rfl ?_
            refine e_geti (j := 6) 49 fl_12_97 dX12_keyAt_46 at_928 (by decide) rfl rfl (fun r46 => ?_)
            simp (disch := omega) only [put_r6, put_w6, put_r7, put_w7, put_r9, put_w9, put_r10, put_w10, put_r11, put_w11, put_r12, put_w12, put_r13, put_w13, put_r14, put_w14, put_r15, put_w15, put_ra, put_r8, put_r0, put_rt, put_wa, u1, u2, hn8] at r46 ⊢
            refine e_iload_n (i := 3) 50 dX12_keyAt_49 rfl rfl rfl ?_
            refine e_iadd 51 dX12_keyAt_50 rfl ?_
            refine e_iald 52 dX12_keyAt_51 ar_931 (by omega) (by omega) rfl (fun r51 => ?_)
            simp (disch := omega) only [put_r6, put_w6, put_r7, put_w7, put_r9, put_w9, put_r10, put_w10, put_r11, put_w11, put_r12, put_w12, put_r13, put_w13, put_r14, put_w14, put_r15, put_w15, put_ra, put_r8, put_r0, put_rt, put_wa, u1, u2, hn8, Int.reduceAdd, Int.add_zero] at r51 ⊢
            refine e_ldcS 54 (i := 20) (by decide) rfl rfl dX12_keyAt_52 rfl ?_
            refine e_iload_n (i := 2) 55 dX12_keyAt_54 rfl rfl rfl ?_
            refine e_iload_n (i := 3) 56 dX12_keyAt_55 rfl rfl rfl ?_
            refine e_iadd 57 dX12_keyAt_56 rfl ?_
            refine e_callF (av := [jI _]) 60 (i := 20) (by decide) mt_yJ_charAt mv_yJ_charAt wd_1410 (by decide) dX12_keyAt_57 rfl rfl rfl (Nat.le_of_ble_eq_true rfl) (jroom (by decide)) rfl (c_charAt (i := 20) (k := 62) (z := 100) (by decide) (by decide) (by decide +kernel) ?_)
            dsimp only [jpush]
            (try simp (disch := omega) only [put_r6, put_w6, put_r7, put_w7, put_r9, put_w9, put_r10, put_w10, put_r11, put_w11, put_r12, put_w12, put_r13, put_w13, put_r14, put_w14, put_r15, put_w15, put_ra, put_r8, put_r0, put_rt, put_wa, u1, u2, hn8])
            refine e_icmp_ne 63 69 dX12_keyAt_60 (by omega) (by decide) (by decide) rfl (fun b60 => ?_) (fun b60 => ?_)
            · skip
              refine e_ldcS 71 (i := 20) (by decide) rfl rfl dX12_keyAt_69 rfl ?_
              refine e_iload_n (i := 2) 72 dX12_keyAt_71 rfl rfl rfl ?_
              refine e_iload_n (i := 3) 73 dX12_keyAt_72 rfl rfl rfl ?_
              refine e_iadd 74 dX12_keyAt_73 rfl ?_
              refine e_callF (av := [jI _]) 77 (i := 20) (by decide) mt_yJ_charAt mv_yJ_charAt wd_1410 (by decide) dX12_keyAt_74 rfl rfl rfl (Nat.le_of_ble_eq_true rfl) (jroom (by decide)) rfl (c_charAt (i := 20) (k := 62) (z := 100) (by decide) (by decide) (by decide +kernel) ?_)
              dsimp only [jpush]
              (try simp (disch := omega) only [put_r6, put_w6, put_r7, put_w7, put_r9, put_w9, put_r10, put_w10, put_r11, put_w11, put_r12, put_w12, put_r13, put_w13, put_r14, put_w14, put_r15, put_w15, put_ra, put_r8, put_r0, put_rt, put_wa, u1, u2, hn8])
              refine e_bipush 79 dX12_keyAt_77 (by decide) rfl ?_
              refine e_icmp_ne 82 97 dX12_keyAt_79 (by decide) (by decide) (by decide) rfl (fun _ => ?_) (fun h => absurd h (by decide))
              refine e_ls (ls2 := [(0, _), (1, _), (2, _)]) rfl ?_
              refine sk_12 (kk_13 hT hp hb ?_)
              rw [kx12, if_neg (fun q => by omega)] at h
              exact h
            · skip
              refine e_iinc (lsn := [(3, _), (0, _), (1, _), (2, _)]) 66 dX12_keyAt_63 rfl (by decide) rfl rfl ?_
              refine e_goto 15 dX12_keyAt_66 (by decide) ?_
              refine e_ldcS 17 (i := 20) (by decide) rfl rfl dX12_keyAt_15 rfl ?_
              refine e_iload_n (i := 2) 18 dX12_keyAt_17 rfl rfl rfl ?_
              refine e_iload_n (i := 3) 19 dX12_keyAt_18 rfl rfl rfl ?_
              refine e_iadd 20 dX12_keyAt_19 rfl ?_
              refine e_callF (av := [jI _]) 23 (i := 20) (by decide) mt_yJ_charAt mv_yJ_charAt wd_1410 (by decide) dX12_keyAt_20 rfl rfl rfl (Nat.le_of_ble_eq_true rfl) (jroom (by decide)) rfl (c_charAt (i := 20) (k := 63) (z := 32) (by decide) (by decide) (by decide +kernel) ?_)
              dsimp only [jpush]
              (try simp (disch := omega) only [put_r6, put_w6, put_r7, put_w7, put_r9, put_w9, put_r10, put_w10, put_r11, put_w11, put_r12, put_w12, put_r13, put_w13, put_r14, put_w14, put_r15, put_w15, put_ra, put_r8, put_r0, put_rt, put_wa, u1, u2, hn8])
              refine e_bipush 25 dX12_keyAt_23 (by decide) rfl ?_
              refine e_icmp_eq 28 69 dX12_keyAt_25 (by decide) (by decide) (by decide) rfl (fun _ => ?_) (fun h => absurd h (by decide))
              refine e_ldcS 71 (i := 20) (by decide) rfl rfl dX12_keyAt_69 rfl ?_
              refine e_iload_n (i := 2) 72 dX12_keyAt_71 rfl rfl rfl ?_
              refine e_iload_n (i := 3) 73 dX12_keyAt_72 rfl rfl rfl ?_
              refine e_iadd 74 dX12_keyAt_73 rfl ?_
              refine e_callF (av := [jI _]) 77 (i := 20) (by decide) mt_yJ_charAt mv_yJ_charAt wd_1410 (by decide) dX12_keyAt_74 rfl rfl rfl (Nat.le_of_ble_eq_true rfl) (jroom (by decide)) rfl (c_charAt (i := 20) (k := 63) (z := 32) (by decide) (by decide) (by decide +kernel) ?_)
              dsimp only [jpush]
              (try simp (disch := omega) only [put_r6, put_w6, put_r7, put_w7, put_r9, put_w9, put_r10, put_w10, put_r11, put_w11, put_r12, put_w12, put_r13, put_w13, put_r14, put_w14, put_r15, put_w15, put_ra, put_r8, put_r0, put_rt, put_wa, u1, u2, hn8])
              refine e_bipush 79 dX12_keyAt_77 (by decide) rfl ?_
              refine e_icmp_ne 82 97 dX12_keyAt_79 (by decide) (by decide) (by decide) rfl (fun h => absurd h (by decide)) (fun _ => ?_)
              refine e_aload_n (i := 0) 83 dX12_keyAt_82 rfl rfl rfl ?_
              refine e_geti (j := 6) 86 fl_12_97 dX12_keyAt_83 at_928 (by decide) rfl rfl (fun r83 => ?_)
              simp (disch := omega) only [put_r6, put_w6, put_r7, put_w7, put_r9, put_w9, put_r10, put_w10, put_r11, put_w11, put_r12, put_w12, put_r13, put_w13, put_r14, put_w14, put_r15, put_w15, put_ra, put_r8, put_r0, put_rt, put_wa, u1, u2, hn8] at r83 ⊢
              refine e_iload_n (i := 3) 87 dX12_keyAt_86 rfl rfl rfl ?_
              refine e_iadd 88 dX12_keyAt_87 rfl ?_
              refine e_aload_n (i := 0) 89 dX12_keyAt_88 rfl rfl rfl ?_
              refine e_geti (j := 7) 92 fl_12_100 dX12_keyAt_89 at_928 (by decide) rfl rfl (fun r89 => ?_)
              simp (disch := omega) only [put_r6, put_w6, put_r7, put_w7, put_r9, put_w9, put_r10, put_w10, put_r11, put_w11, put_r12, put_w12, put_r13, put_w13, put_r14, put_w14, put_r15, put_w15, put_ra, put_r8, put_r0, put_rt, put_wa, u1, u2, hn8] at r89 ⊢
              refine e_icmp_ne 95 97 dX12_keyAt_92 (by omega) (by omega) (by decide) rfl (fun b92 => ?_) (fun b92 => ?_)
              · skip
                refine e_ls (ls2 := [(0, _), (1, _), (2, _)]) rfl ?_
                refine sk_12 (kk_13 hT hp hb ?_)
                rw [kx12, if_neg (fun q => by omega)] at h
                exact h
              · skip
                refine e_iload_n (i := 1) 96 dX12_keyAt_95 rfl rfl rfl ?_
                refine e_iret dX12_keyAt_96 ?_
                rw [kx12, if_pos (by omega)] at h
                exact h

theorem sk_11 {X : jX} {Y : jM} {Q : Int → jM → Prop} (h : jE X yX12_keyAt cX12_keyAt 4 (some .int) 5 Q Y 4 [(0, jR 928), (1, jI 12), (2, jI 60)] []) : jE X yX12_keyAt cX12_keyAt 4 (some .int) 5 Q Y 97 [(0, jR 928), (1, jI 11), (2, jI 57)] [] := by
  refine e_ldcS 99 (i := 20) (by decide) rfl rfl dX12_keyAt_97 rfl ?_
  refine e_iload_n (i := 2) 100 dX12_keyAt_99 rfl rfl rfl ?_
  refine e_callF (av := [jI _]) 103 (i := 20) (by decide) mt_yJ_charAt mv_yJ_charAt wd_1410 (by decide) dX12_keyAt_100 rfl rfl rfl (Nat.le_of_ble_eq_true rfl) (jroom (by decide)) rfl (c_charAt (i := 20) (k := 57) (z := 111) (by decide) (by decide) (by decide +kernel) ?_)
  dsimp only [jpush]
  refine e_bipush 105 dX12_keyAt_103 (by decide) rfl ?_
  refine e_icmp_eq 108 114 dX12_keyAt_105 (by decide) (by decide) (by decide) rfl (fun h => absurd h (by decide)) (fun _ => ?_)
  refine e_iinc (lsn := [(2, _), (0, _), (1, _)]) 111 dX12_keyAt_108 rfl (by decide) rfl rfl ?_
  refine e_goto 97 dX12_keyAt_111 (by decide) ?_
  refine e_ldcS 99 (i := 20) (by decide) rfl rfl dX12_keyAt_97 rfl ?_
  refine e_iload_n (i := 2) 100 dX12_keyAt_99 rfl rfl rfl ?_
  refine e_callF (av := [jI _]) 103 (i := 20) (by decide) mt_yJ_charAt mv_yJ_charAt wd_1410 (by decide) dX12_keyAt_100 rfl rfl rfl (Nat.le_of_ble_eq_true rfl) (jroom (by decide)) rfl (c_charAt (i := 20) (k := 58) (z := 114) (by decide) (by decide) (by decide +kernel) ?_)
  dsimp only [jpush]
  refine e_bipush 105 dX12_keyAt_103 (by decide) rfl ?_
  refine e_icmp_eq 108 114 dX12_keyAt_105 (by decide) (by decide) (by decide) rfl (fun h => absurd h (by decide)) (fun _ => ?_)
  refine e_iinc (lsn := [(2, _), (0, _), (1, _)]) 111 dX12_keyAt_108 rfl (by decide) rfl rfl ?_
  refine e_goto 97 dX12_keyAt_111 (by decide) ?_
  refine e_ldcS 99 (i := 20) (by decide) rfl rfl dX12_keyAt_97 rfl ?_
  refine e_iload_n (i := 2) 100 dX12_keyAt_99 rfl rfl rfl ?_
  refine e_callF (av := [jI _]) 103 (i := 20) (by decide) mt_yJ_charAt mv_yJ_charAt wd_1410 (by decide) dX12_keyAt_100 rfl rfl rfl (Nat.le_of_ble_eq_true rfl) (jroom (by decide)) rfl (c_charAt (i := 20) (k := 59) (z := 32) (by decide) (by decide) (by decide +kernel) ?_)
  dsimp only [jpush]
  refine e_bipush 105 dX12_keyAt_103 (by decide) rfl ?_
  refine e_icmp_eq 108 114 dX12_keyAt_105 (by decide) (by decide) (by decide) rfl (fun _ => ?_) (fun h => absurd h (by decide))
  refine e_iinc (lsn := [(2, _), (0, _), (1, _)]) 117 dX12_keyAt_114 rfl (by decide) rfl rfl ?_
  refine e_iinc (lsn := [(1, _), (2, _), (0, _)]) 120 dX12_keyAt_117 rfl (by decide) rfl rfl ?_
  refine e_goto 4 dX12_keyAt_120 (by decide) ?_
  refine e_ls (ls2 := [(0, _), (1, _), (2, _)]) rfl ?_
  exact h

theorem kk_11 {X : jX} {M : jM} {n : Int} {Q : Int → jM → Prop} (hT : RT M n) {s : PS} (hp : 0 ≤ s.1) (hb : s.1 ≤ s.2.1 ∧ s.2.1 ≤ n) (h : Q (kx11 (M 931) s.1 s.2.1) (put M s)) : jE X yX12_keyAt cX12_keyAt 4 (some .int) 5 Q (put M s) 4 [(0, jR 928), (1, jI 11), (2, jI 57)] [] := by
  have hn8 := hT.1
  have hn := hT.2.1
  refine e_iload_n (i := 2) 5 dX12_keyAt_4 rfl rfl rfl ?_
  refine e_ldcS 7 (i := 20) (by decide) rfl rfl dX12_keyAt_5 rfl ?_
  refine e_callF (av := []) 10 (i := 20) (by decide) mt_yJ_len mv_yJ_len wd_1409 (by decide) dX12_keyAt_7 rfl rfl rfl (Nat.le_of_ble_eq_true rfl) (jroom (by decide)) rfl (c_strlen (i := 20) (z := 99) (by decide) (by decide) ?_)
  dsimp only [jpush]
  (try simp (disch := omega) only [put_r6, put_w6, put_r7, put_w7, put_r9, put_w9, put_r10, put_w10, put_r11, put_w11, put_r12, put_w12, put_r13, put_w13, put_r14, put_w14, put_r15, put_w15, put_ra, put_r8, put_r0, put_rt, put_wa, u1, u2, hn8])
  refine e_icmp_ge 13 123 dX12_keyAt_10 (by decide) (by decide) (by decide) rfl (fun h => absurd h (by decide)) (fun _ => ?_)
  refine e_iconst 14 dX12_keyAt_13 rfl ?_
  refine e_istore_n (i := 3) (lsn := [(3, _), (0, _), (1, _), (2, _)]) 15 dX12_keyAt_14 rfl (by decide) rfl rfl ?_
  refine e_ldcS 17 (i := 20) (by decide) rfl rfl dX12_keyAt_15 rfl ?_
  refine e_iload_n (i := 2) 18 dX12_keyAt_17 rfl rfl rfl ?_
  refine e_iload_n (i := 3) 19 dX12_keyAt_18 rfl rfl rfl ?_
  refine e_iadd 20 dX12_keyAt_19 rfl ?_
  refine e_callF (av := [jI _]) 23 (i := 20) (by decide) mt_yJ_charAt mv_yJ_charAt wd_1410 (by decide) dX12_keyAt_20 rfl rfl rfl (Nat.le_of_ble_eq_true rfl) (jroom (by decide)) rfl (c_charAt (i := 20) (k := 57) (z := 111) (by decide) (by decide) (by decide +kernel) ?_)
  dsimp only [jpush]
  (try simp (disch := omega) only [put_r6, put_w6, put_r7, put_w7, put_r9, put_w9, put_r10, put_w10, put_r11, put_w11, put_r12, put_w12, put_r13, put_w13, put_r14, put_w14, put_r15, put_w15, put_ra, put_r8, put_r0, put_rt, put_wa, u1, u2, hn8])
  refine e_bipush 25 dX12_keyAt_23 (by decide) rfl ?_
  refine e_icmp_eq 28 69 dX12_keyAt_25 (by decide) (by decide) (by decide) rfl (fun h => absurd h (by decide)) (fun _ => ?_)
  refine e_aload_n (i := 0) 29 dX12_keyAt_28 rfl rfl rfl ?_
  refine e_geti (j := 6) 32 fl_12_97 dX12_keyAt_29 at_928 (by decide) rfl rfl (fun r29 => ?_)
  simp (disch := omega) only [put_r6, put_w6, put_r7, put_w7, put_r9, put_w9, put_r10, put_w10, put_r11, put_w11, put_r12, put_w12, put_r13, put_w13, put_r14, put_w14, put_r15, put_w15, put_ra, put_r8, put_r0, put_rt, put_wa, u1, u2, hn8] at r29 ⊢
  refine e_iload_n (i := 3) 33 dX12_keyAt_32 rfl rfl rfl ?_
  refine e_iadd 34 dX12_keyAt_33 rfl ?_
  refine e_aload_n (i := 0) 35 dX12_keyAt_34 rfl rfl rfl ?_
  refine e_geti (j := 7) 38 fl_12_100 dX12_keyAt_35 at_928 (by decide) rfl rfl (fun r35 => ?_)
  simp (disch := omega) only [put_r6, put_w6, put_r7, put_w7, put_r9, put_w9, put_r10, put_w10, put_r11, put_w11, put_r12, put_w12, put_r13, put_w13, put_r14, put_w14, put_r15, put_w15, put_ra, put_r8, put_r0, put_rt, put_wa, u1, u2, hn8] at r35 ⊢
  refine e_icmp_ge 41 69 dX12_keyAt_38 (by omega) (by omega) (by decide) rfl (fun b38 => ?_) (fun b38 => ?_)
  · skip
    refine e_ldcS 71 (i := 20) (by decide) rfl rfl dX12_keyAt_69 rfl ?_
    refine e_iload_n (i := 2) 72 dX12_keyAt_71 rfl rfl rfl ?_
    refine e_iload_n (i := 3) 73 dX12_keyAt_72 rfl rfl rfl ?_
    refine e_iadd 74 dX12_keyAt_73 rfl ?_
    refine e_callF (av := [jI _]) 77 (i := 20) (by decide) mt_yJ_charAt mv_yJ_charAt wd_1410 (by decide) dX12_keyAt_74 rfl rfl rfl (Nat.le_of_ble_eq_true rfl) (jroom (by decide)) rfl (c_charAt (i := 20) (k := 57) (z := 111) (by decide) (by decide) (by decide +kernel) ?_)
    dsimp only [jpush]
    (try simp (disch := omega) only [put_r6, put_w6, put_r7, put_w7, put_r9, put_w9, put_r10, put_w10, put_r11, put_w11, put_r12, put_w12, put_r13, put_w13, put_r14, put_w14, put_r15, put_w15, put_ra, put_r8, put_r0, put_rt, put_wa, u1, u2, hn8])
    refine e_bipush 79 dX12_keyAt_77 (by decide) rfl ?_
    refine e_icmp_ne 82 97 dX12_keyAt_79 (by decide) (by decide) (by decide) rfl (fun _ => ?_) (fun h => absurd h (by decide))
    refine e_ls (ls2 := [(0, _), (1, _), (2, _)]) rfl ?_
    refine sk_11 (kk_12 hT hp hb ?_)
    rw [kx11, if_neg (fun q => by omega)] at h
    exact h
  · skip
    refine e_aload_n (i := 0) 42 dX12_keyAt_41 rfl rfl rfl ?_
    refine e_getr (j := 3) 45 fl_12_21 dX12_keyAt_42 at_928 rfl rfl tp_928_3 rfl ?_
    refine e_aload_n (i := 0) 46 dX12_keyAt_45 rfl rfl rfl ?_
    refine e_geti (j := 6) 49 fl_12_97 dX12_keyAt_46 at_928 (by decide) rfl rfl (fun r46 => ?_)
    simp (disch := omega) only [put_r6, put_w6, put_r7, put_w7, put_r9, put_w9, put_r10, put_w10, put_r11, put_w11, put_r12, put_w12, put_r13, put_w13, put_r14, put_w14, put_r15, put_w15, put_ra, put_r8, put_r0, put_rt, put_wa, u1, u2, hn8] at r46 ⊢
    refine e_iload_n (i := 3) 50 dX12_keyAt_49 rfl rfl rfl ?_
    refine e_iadd 51 dX12_keyAt_50 rfl ?_
    refine e_iald 52 dX12_keyAt_51 ar_931 (by omega) (by omega) rfl (fun r51 => ?_)
    simp (disch := omega) only [put_r6, put_w6, put_r7, put_w7, put_r9, put_w9, put_r10, put_w10, put_r11, put_w11, put_r12, put_w12, put_r13, put_w13, put_r14, put_w14, put_r15, put_w15, put_ra, put_r8, put_r0, put_rt, put_wa, u1, u2, hn8, Int.reduceAdd, Int.add_zero] at r51 ⊢
    refine e_ldcS 54 (i := 20) (by decide) rfl rfl dX12_keyAt_52 rfl ?_
    refine e_iload_n (i := 2) 55 dX12_keyAt_54 rfl rfl rfl ?_
    refine e_iload_n (i := 3) 56 dX12_keyAt_55 rfl rfl rfl ?_
    refine e_iadd 57 dX12_keyAt_56 rfl ?_
    refine e_callF (av := [jI _]) 60 (i := 20) (by decide) mt_yJ_charAt mv_yJ_charAt wd_1410 (by decide) dX12_keyAt_57 rfl rfl rfl (Nat.le_of_ble_eq_true rfl) (jroom (by decide)) rfl (c_charAt (i := 20) (k := 57) (z := 111) (by decide) (by decide) (by decide +kernel) ?_)
    dsimp only [jpush]
    (try simp (disch := omega) only [put_r6, put_w6, put_r7, put_w7, put_r9, put_w9, put_r10, put_w10, put_r11, put_w11, put_r12, put_w12, put_r13, put_w13, put_r14, put_w14, put_r15, put_w15, put_ra, put_r8, put_r0, put_rt, put_wa, u1, u2, hn8])
    refine e_icmp_ne 63 69 dX12_keyAt_60 (by omega) (by decide) (by decide) rfl (fun b60 => ?_) (fun b60 => ?_)
    · skip
      refine e_ldcS 71 (i := 20) (by decide) rfl rfl dX12_keyAt_69 rfl ?_
      refine e_iload_n (i := 2) 72 dX12_keyAt_71 rfl rfl rfl ?_
      refine e_iload_n (i := 3) 73 dX12_keyAt_72 rfl rfl rfl ?_
      refine e_iadd 74 dX12_keyAt_73 rfl ?_
      refine e_callF (av := [jI _]) 77 (i := 20) (by decide) mt_yJ_charAt mv_yJ_charAt wd_1410 (by decide) dX12_keyAt_74 rfl rfl rfl (Nat.le_of_ble_eq_true rfl) (jroom (by decide)) rfl (c_charAt (i := 20) (k := 57) (z := 111) (by decide) (by decide) (by decide +kernel) ?_)
      dsimp only [jpush]
      (try simp (disch := omega) only [put_r6, put_w6, put_r7, put_w7, put_r9, put_w9, put_r10, put_w10, put_r11, put_w11, put_r12, put_w12, put_r13, put_w13, put_r14, put_w14, put_r15, put_w15, put_ra, put_r8, put_r0, put_rt, put_wa, u1, u2, hn8])
      refine e_bipush 79 dX12_keyAt_77 (by decide) rfl ?_
      refine e_icmp_ne 82 97 dX12_keyAt_79 (by decide) (by decide) (by decide) rfl (fun _ => ?_) (fun h => absurd h (by decide))
      refine e_ls (ls2 := [(0, _), (1, _), (2, _)]) rfl ?_
      refine sk_11 (kk_12 hT hp hb ?_)
      rw [kx11, if_neg (fun q => by omega)] at h
      exact h
    · skip
      refine e_iinc (lsn := [(3, _), (0, _), (1, _), (2, _)]) 66 dX12_keyAt_63 rfl (by decide) rfl rfl ?_
      refine e_goto 15 dX12_keyAt_66 (by decide) ?_
      refine e_ldcS 17 (i := 20) (by decide) rfl rfl dX12_keyAt_15 rfl ?_
      refine e_iload_n (i := 2) 18 dX12_keyAt_17 rfl rfl rfl ?_
      refine e_iload_n (i := 3) 19 dX12_keyAt_18 rfl rfl rfl ?_
      refine e_iadd 20 dX12_keyAt_19 rfl ?_
      refine e_callF (av := [jI _]) 23 (i := 20) (by decide) mt_yJ_charAt mv_yJ_charAt wd_1410 (by decide) dX12_keyAt_20 rfl rfl rfl (Nat.le_of_ble_eq_true rfl) (jroom (by decide)) rfl (c_charAt (i := 20) (k := 58) (z := 114) (by decide) (by decide) (by decide +kernel) ?_)
      dsimp only [jpush]
      (try simp (disch := omega) only [put_r6, put_w6, put_r7, put_w7, put_r9, put_w9, put_r10, put_w10, put_r11, put_w11, put_r12, put_w12, put_r13, put_w13, put_r14, put_w14, put_r15, put_w15, put_ra, put_r8, put_r0, put_rt, put_wa, u1, u2, hn8])
      refine e_bipush 25 dX12_keyAt_23 (by decide) rfl ?_
      refine e_icmp_eq 28 69 dX12_keyAt_25 (by decide) (by decide) (by decide) rfl (fun h => absurd h (by decide)) (fun _ => ?_)
      refine e_aload_n (i := 0) 29 dX12_keyAt_28 rfl rfl rfl ?_
      refine e_geti (j := 6) 32 fl_12_97 dX12_keyAt_29 at_928 (by decide) rfl rfl (fun r29 => ?_)
      simp (disch := omega) only [put_r6, put_w6, put_r7, put_w7, put_r9, put_w9, put_r10, put_w10, put_r11, put_w11, put_r12, put_w12, put_r13, put_w13, put_r14, put_w14, put_r15, put_w15, put_ra, put_r8, put_r0, put_rt, put_wa, u1, u2, hn8] at r29 ⊢
      refine e_iload_n (i := 3) 33 dX12_keyAt_32 rfl rfl rfl ?_
      refine e_iadd 34 dX12_keyAt_33 rfl ?_
      refine e_aload_n (i := 0) 35 dX12_keyAt_34 rfl rfl rfl ?_
      refine e_geti (j := 7) 38 fl_12_100 dX12_keyAt_35 at_928 (by decide) rfl rfl (fun r35 => ?_)
      simp (disch := omega) only [put_r6, put_w6, put_r7, put_w7, put_r9, put_w9, put_r10, put_w10, put_r11, put_w11, put_r12, put_w12, put_r13, put_w13, put_r14, put_w14, put_r15, put_w15, put_ra, put_r8, put_r0, put_rt, put_wa, u1, u2, hn8] at r35 ⊢
      refine e_icmp_ge 41 69 dX12_keyAt_38 (by omega) (by omega) (by decide) rfl (fun b38 => ?_) (fun b38 => ?_)
      · skip
        refine e_ldcS 71 (i := 20) (by decide) rfl rfl dX12_keyAt_69 rfl ?_
        refine e_iload_n (i := 2) 72 dX12_keyAt_71 rfl rfl rfl ?_
        refine e_iload_n (i := 3) 73 dX12_keyAt_72 rfl rfl rfl ?_
        refine e_iadd 74 dX12_keyAt_73 rfl ?_
        refine e_callF (av := [jI _]) 77 (i := 20) (by decide) mt_yJ_charAt mv_yJ_charAt wd_1410 (by decide) dX12_keyAt_74 rfl rfl rfl (Nat.le_of_ble_eq_true rfl) (jroom (by decide)) rfl (c_charAt (i := 20) (k := 58) (z := 114) (by decide) (by decide) (by decide +kernel) ?_)
        dsimp only [jpush]
        (try simp (disch := omega) only [put_r6, put_w6, put_r7, put_w7, put_r9, put_w9, put_r10, put_w10, put_r11, put_w11, put_r12, put_w12, put_r13, put_w13, put_r14, put_w14, put_r15, put_w15, put_ra, put_r8, put_r0, put_rt, put_wa, u1, u2, hn8])
        refine e_bipush 79 dX12_keyAt_77 (by decide) rfl ?_
        refine e_icmp_ne 82 97 dX12_keyAt_79 (by decide) (by decide) (by decide) rfl (fun _ => ?_) (fun h => absurd h (by decide))
        refine e_ls (ls2 := [(0, _), (1, _), (2, _)]) rfl ?_
        refine sk_11 (kk_12 hT hp hb ?_)
        rw [kx11, if_neg (fun q => by omega)] at h
        exact h
      · skip
        refine e_aload_n (i := 0) 42 dX12_keyAt_41 rfl rfl rfl ?_
        refine e_getr (j := 3) 45 fl_12_21 dX12_keyAt_42 at_928 rfl rfl tp_928_3 rfl ?_
        refine e_aload_n (i := 0) 46 dX12_keyAt_45 rfl rfl rfl ?_
        refine e_geti (j := 6) 49 fl_12_97 dX12_keyAt_46 at_928 (by decide) rfl rfl (fun r46 => ?_)
        simp (disch := omega) only [put_r6, put_w6, put_r7, put_w7, put_r9, put_w9, put_r10, put_w10, put_r11, put_w11, put_r12, put_w12, put_r13, put_w13, put_r14, put_w14, put_r15, put_w15, put_ra, put_r8, put_r0, put_rt, put_wa, u1, u2, hn8] at r46 ⊢
        refine e_iload_n (i := 3) 50 dX12_keyAt_49 rfl rfl rfl ?_
        refine e_iadd 51 dX12_keyAt_50 rfl ?_
        refine e_iald 52 dX12_keyAt_51 ar_931 (by omega) (by omega) rfl (fun r51 => ?_)
        simp (disch := omega) only [put_r6, put_w6, put_r7, put_w7, put_r9, put_w9, put_r10, put_w10, put_r11, put_w11, put_r12, put_w12, put_r13, put_w13, put_r14, put_w14, put_r15, put_w15, put_ra, put_r8, put_r0, put_rt, put_wa, u1, u2, hn8, Int.reduceAdd, Int.add_zero] at r51 ⊢
        refine e_ldcS 54 (i := 20) (by decide) rfl rfl dX12_keyAt_52 rfl ?_
        refine e_iload_n (i := 2) 55 dX12_keyAt_54 rfl rfl rfl ?_
        refine e_iload_n (i := 3) 56 dX12_keyAt_55 rfl rfl rfl ?_
        refine e_iadd 57 dX12_keyAt_56 rfl ?_
        refine e_callF (av := [jI _]) 60 (i := 20) (by decide) mt_yJ_charAt mv_yJ_charAt wd_1410 (by decide) dX12_keyAt_57 rfl rfl rfl (Nat.le_of_ble_eq_true rfl) (jroom (by decide)) rfl (c_charAt (i := 20) (k := 58) (z := 114) (by decide) (by decide) (by decide +kernel) ?_)
        dsimp only [jpush]
        (try simp (disch := omega) only [put_r6, put_w6, put_r7, put_w7, put_r9, put_w9, put_r10, put_w10, put_r11, put_w11, put_r12, put_w12, put_r13, put_w13, put_r14, put_w14, put_r15, put_w15, put_ra, put_r8, put_r0, put_rt, put_wa, u1, u2, hn8])
        refine e_icmp_ne 63 69 dX12_keyAt_60 (by omega) (by decide) (by decide) rfl (fun b60 => ?_) (fun b60 => ?_)
        · skip
          refine e_ldcS 71 (i := 20) (by decide) rfl rfl dX12_keyAt_69 rfl ?_
          refine e_iload_n (i := 2) 72 dX12_keyAt_71 rfl rfl rfl ?_
          refine e_iload_n (i := 3) 73 dX12_keyAt_72 rfl rfl rfl ?_
          refine e_iadd 74 dX12_keyAt_73 rfl ?_
          refine e_callF (av := [jI _]) 77 (i := 20) (by decide) mt_yJ_charAt mv_yJ_charAt wd_1410 (by decide) dX12_keyAt_74 rfl rfl rfl (Nat.le_of_ble_eq_true rfl) (jroom (by decide)) rfl (c_charAt (i := 20) (k := 58) (z := 114) (by decide) (by decide) (by decide +kernel) ?_)
          dsimp only [jpush]
          (try simp (disch := omega) only [put_r6, put_w6, put_r7, put_w7, put_r9, put_w9, put_r10, put_w10, put_r11, put_w11, put_r12, put_w12, put_r13, put_w13, put_r14, put_w14, put_r15, put_w15, put_ra, put_r8, put_r0, put_rt, put_wa, u1, u2, hn8])
          refine e_bipush 79 dX12_keyAt_77 (by decide) rfl ?_
          refine e_icmp_ne 82 97 dX12_keyAt_79 (by decide) (by decide) (by decide) rfl (fun _ => ?_) (fun h => absurd h (by decide))
          refine e_ls (ls2 := [(0, _), (1, _), (2, _)]) rfl ?_
          refine sk_11 (kk_12 hT hp hb ?_)
          rw [kx11, if_neg (fun q => by omega)] at h
          exact h
        · skip
          refine e_iinc (lsn := [(3, _), (0, _), (1, _), (2, _)]) 66 dX12_keyAt_63 rfl (by decide) rfl rfl ?_
          refine e_goto 15 dX12_keyAt_66 (by decide) ?_
          refine e_ldcS 17 (i := 20) (by decide) rfl rfl dX12_keyAt_15 rfl ?_
          refine e_iload_n (i := 2) 18 dX12_keyAt_17 rfl rfl rfl ?_
          refine e_iload_n (i := 3) 19 dX12_keyAt_18 rfl rfl rfl ?_
          refine e_iadd 20 dX12_keyAt_19 rfl ?_
          refine e_callF (av := [jI _]) 23 (i := 20) (by decide) mt_yJ_charAt mv_yJ_charAt wd_1410 (by decide) dX12_keyAt_20 rfl rfl rfl (Nat.le_of_ble_eq_true rfl) (jroom (by decide)) rfl (c_charAt (i := 20) (k := 59) (z := 32) (by decide) (by decide) (by decide +kernel) ?_)
          dsimp only [jpush]
          (try simp (disch := omega) only [put_r6, put_w6, put_r7, put_w7, put_r9, put_w9, put_r10, put_w10, put_r11, put_w11, put_r12, put_w12, put_r13, put_w13, put_r14, put_w14, put_r15, put_w15, put_ra, put_r8, put_r0, put_rt, put_wa, u1, u2, hn8])
          refine e_bipush 25 dX12_keyAt_23 (by decide) rfl ?_
          refine e_icmp_eq 28 69 dX12_keyAt_25 (by decide) (by decide) (by decide) rfl (fun _ => ?_) (fun h => absurd h (by decide))
          refine e_ldcS 71 (i := 20) (by decide) rfl rfl dX12_keyAt_69 rfl ?_
          refine e_iload_n (i := 2) 72 dX12_keyAt_71 rfl rfl rfl ?_
          refine e_iload_n (i := 3) 73 dX12_keyAt_72 rfl rfl rfl ?_
          refine e_iadd 74 dX12_keyAt_73 rfl ?_
          refine e_callF (av := [jI _]) 77 (i := 20) (by decide) mt_yJ_charAt mv_yJ_charAt wd_1410 (by decide) dX12_keyAt_74 rfl rfl rfl (Nat.le_of_ble_eq_true rfl) (jroom (by decide)) rfl (c_charAt (i := 20) (k := 59) (z := 32) (by decide) (by decide) (by decide +kernel) ?_)
          dsimp only [jpush]
          (try simp (disch := omega) only [put_r6, put_w6, put_r7, put_w7, put_r9, put_w9, put_r10, put_w10, put_r11, put_w11, put_r12, put_w12, put_r13, put_w13, put_r14, put_w14, put_r15, put_w15, put_ra, put_r8, put_r0, put_rt, put_wa, u1, u2, hn8])
          refine e_bipush 79 dX12_keyAt_77 (by decide) rfl ?_
          refine e_icmp_ne 82 97 dX12_keyAt_79 (by decide) (by decide) (by decide) rfl (fun h => absurd h (by decide)) (fun _ => ?_)
          refine e_aload_n (i := 0) 83 dX12_keyAt_82 rfl rfl rfl ?_
          refine e_geti (j := 6) 86 fl_12_97 dX12_keyAt_83 at_928 (by decide) rfl rfl (fun r83 => ?_)
          simp (disch := omega) only [put_r6, put_w6, put_r7, put_w7, put_r9, put_w9, put_r10, put_w10, put_r11, put_w11, put_r12, put_w12, put_r13, put_w13, put_r14, put_w14, put_r15, put_w15, put_ra, put_r8, put_r0, put_rt, put_wa, u1, u2, hn8] at r83 ⊢
          refine e_iload_n (i := 3) 87 dX12_keyAt_86 rfl rfl rfl ?_
          refine e_iadd 88 dX12_keyAt_87 rfl ?_
          refine e_aload_n (i := 0) 89 dX12_keyAt_88 rfl rfl rfl ?_
          refine e_geti (j := 7) 92 fl_12_100 dX12_keyAt_89 at_928 (by decide) rfl rfl (fun r89 => ?_)
          simp (disch := omega) only [put_r6, put_w6, put_r7, put_w7, put_r9, put_w9, put_r10, put_w10, put_r11, put_w11, put_r12, put_w12, put_r13, put_w13, put_r14, put_w14, put_r15, put_w15, put_ra, put_r8, put_r0, put_rt, put_wa, u1, u2, hn8] at r89 ⊢
          refine e_icmp_ne 95 97 dX12_keyAt_92 (by omega) (by omega) (by decide) rfl (fun b92 => ?_) (fun b92 => ?_)
          · skip
            refine e_ls (ls2 := [(0, _), (1, _), (2, _)]) rfl ?_
            refine sk_11 (kk_12 hT hp hb ?_)
            rw [kx11, if_neg (fun q => by omega)] at h
            exact h
          · skip
            refine e_iload_n (i := 1) 96 dX12_keyAt_95 rfl rfl rfl ?_
            refine e_iret dX12_keyAt_96 ?_
            rw [kx11, if_pos (by omega)] at h
            exact h

theorem sk_10 {X : jX} {Y : jM} {Q : Int → jM → Prop} (h : jE X yX12_keyAt cX12_keyAt 4 (some .int) 5 Q Y 4 [(0, jR 928), (1, jI 11), (2, jI 57)] []) : jE X yX12_keyAt cX12_keyAt 4 (some .int) 5 Q Y 97 [(0, jR 928), (1, jI 10), (2, jI 54)] [] := by
  refine e_ldcS 99 (i := 20) (by decide) rfl rfl dX12_keyAt_97 rfl ?_
  refine e_iload_n (i := 2) 100 dX12_keyAt_99 rfl rfl rfl ?_
  refine e_callF (av := [jI _]) 103 (i := 20) (by decide) mt_yJ_charAt mv_yJ_charAt wd_1410 (by decide) dX12_keyAt_100 rfl rfl rfl (Nat.le_of_ble_eq_true rfl) (jroom (by decide)) rfl (c_charAt (i := 20) (k := 54) (z := 105) (by decide) (by decide) (by decide +kernel) ?_)
  dsimp only [jpush]
  refine e_bipush 105 dX12_keyAt_103 (by decide) rfl ?_
  refine e_icmp_eq 108 114 dX12_keyAt_105 (by decide) (by decide) (by decide) rfl (fun h => absurd h (by decide)) (fun _ => ?_)
  refine e_iinc (lsn := [(2, _), (0, _), (1, _)]) 111 dX12_keyAt_108 rfl (by decide) rfl rfl ?_
  refine e_goto 97 dX12_keyAt_111 (by decide) ?_
  refine e_ldcS 99 (i := 20) (by decide) rfl rfl dX12_keyAt_97 rfl ?_
  refine e_iload_n (i := 2) 100 dX12_keyAt_99 rfl rfl rfl ?_
  refine e_callF (av := [jI _]) 103 (i := 20) (by decide) mt_yJ_charAt mv_yJ_charAt wd_1410 (by decide) dX12_keyAt_100 rfl rfl rfl (Nat.le_of_ble_eq_true rfl) (jroom (by decide)) rfl (c_charAt (i := 20) (k := 55) (z := 102) (by decide) (by decide) (by decide +kernel) ?_)
  dsimp only [jpush]
  refine e_bipush 105 dX12_keyAt_103 (by decide) rfl ?_
  refine e_icmp_eq 108 114 dX12_keyAt_105 (by decide) (by decide) (by decide) rfl (fun h => absurd h (by decide)) (fun _ => ?_)
  refine e_iinc (lsn := [(2, _), (0, _), (1, _)]) 111 dX12_keyAt_108 rfl (by decide) rfl rfl ?_
  refine e_goto 97 dX12_keyAt_111 (by decide) ?_
  refine e_ldcS 99 (i := 20) (by decide) rfl rfl dX12_keyAt_97 rfl ?_
  refine e_iload_n (i := 2) 100 dX12_keyAt_99 rfl rfl rfl ?_
  refine e_callF (av := [jI _]) 103 (i := 20) (by decide) mt_yJ_charAt mv_yJ_charAt wd_1410 (by decide) dX12_keyAt_100 rfl rfl rfl (Nat.le_of_ble_eq_true rfl) (jroom (by decide)) rfl (c_charAt (i := 20) (k := 56) (z := 32) (by decide) (by decide) (by decide +kernel) ?_)
  dsimp only [jpush]
  refine e_bipush 105 dX12_keyAt_103 (by decide) rfl ?_
  refine e_icmp_eq 108 114 dX12_keyAt_105 (by decide) (by decide) (by decide) rfl (fun _ => ?_) (fun h => absurd h (by decide))
  refine e_iinc (lsn := [(2, _), (0, _), (1, _)]) 117 dX12_keyAt_114 rfl (by decide) rfl rfl ?_
  refine e_iinc (lsn := [(1, _), (2, _), (0, _)]) 120 dX12_keyAt_117 rfl (by decide) rfl rfl ?_
  refine e_goto 4 dX12_keyAt_120 (by decide) ?_
  refine e_ls (ls2 := [(0, _), (1, _), (2, _)]) rfl ?_
  exact h

theorem kk_10 {X : jX} {M : jM} {n : Int} {Q : Int → jM → Prop} (hT : RT M n) {s : PS} (hp : 0 ≤ s.1) (hb : s.1 ≤ s.2.1 ∧ s.2.1 ≤ n) (h : Q (kx10 (M 931) s.1 s.2.1) (put M s)) : jE X yX12_keyAt cX12_keyAt 4 (some .int) 5 Q (put M s) 4 [(0, jR 928), (1, jI 10), (2, jI 54)] [] := by
  have hn8 := hT.1
  have hn := hT.2.1
  refine e_iload_n (i := 2) 5 dX12_keyAt_4 rfl rfl rfl ?_
  refine e_ldcS 7 (i := 20) (by decide) rfl rfl dX12_keyAt_5 rfl ?_
  refine e_callF (av := []) 10 (i := 20) (by decide) mt_yJ_len mv_yJ_len wd_1409 (by decide) dX12_keyAt_7 rfl rfl rfl (Nat.le_of_ble_eq_true rfl) (jroom (by decide)) rfl (c_strlen (i := 20) (z := 99) (by decide) (by decide) ?_)
  dsimp only [jpush]
  (try simp (disch := omega) only [put_r6, put_w6, put_r7, put_w7, put_r9, put_w9, put_r10, put_w10, put_r11, put_w11, put_r12, put_w12, put_r13, put_w13, put_r14, put_w14, put_r15, put_w15, put_ra, put_r8, put_r0, put_rt, put_wa, u1, u2, hn8])
  refine e_icmp_ge 13 123 dX12_keyAt_10 (by decide) (by decide) (by decide) rfl (fun h => absurd h (by decide)) (fun _ => ?_)
  refine e_iconst 14 dX12_keyAt_13 rfl ?_
  refine e_istore_n (i := 3) (lsn := [(3, _), (0, _), (1, _), (2, _)]) 15 dX12_keyAt_14 rfl (by decide) rfl rfl ?_
  refine e_ldcS 17 (i := 20) (by decide) rfl rfl dX12_keyAt_15 rfl ?_
  refine e_iload_n (i := 2) 18 dX12_keyAt_17 rfl rfl rfl ?_
  refine e_iload_n (i := 3) 19 dX12_keyAt_18 rfl rfl rfl ?_
  refine e_iadd 20 dX12_keyAt_19 rfl ?_
  refine e_callF (av := [jI _]) 23 (i := 20) (by decide) mt_yJ_charAt mv_yJ_charAt wd_1410 (by decide) dX12_keyAt_20 rfl rfl rfl (Nat.le_of_ble_eq_true rfl) (jroom (by decide)) rfl (c_charAt (i := 20) (k := 54) (z := 105) (by decide) (by decide) (by decide +kernel) ?_)
  dsimp only [jpush]
  (try simp (disch := omega) only [put_r6, put_w6, put_r7, put_w7, put_r9, put_w9, put_r10, put_w10, put_r11, put_w11, put_r12, put_w12, put_r13, put_w13, put_r14, put_w14, put_r15, put_w15, put_ra, put_r8, put_r0, put_rt, put_wa, u1, u2, hn8])
  refine e_bipush 25 dX12_keyAt_23 (by decide) rfl ?_
  refine e_icmp_eq 28 69 dX12_keyAt_25 (by decide) (by decide) (by decide) rfl (fun h => absurd h (by decide)) (fun _ => ?_)
  refine e_aload_n (i := 0) 29 dX12_keyAt_28 rfl rfl rfl ?_
  refine e_geti (j := 6) 32 fl_12_97 dX12_keyAt_29 at_928 (by decide) rfl rfl (fun r29 => ?_)
  simp (disch := omega) only [put_r6, put_w6, put_r7, put_w7, put_r9, put_w9, put_r10, put_w10, put_r11, put_w11, put_r12, put_w12, put_r13, put_w13, put_r14, put_w14, put_r15, put_w15, put_ra, put_r8, put_r0, put_rt, put_wa, u1, u2, hn8] at r29 ⊢
  refine e_iload_n (i := 3) 33 dX12_keyAt_32 rfl rfl rfl ?_
  refine e_iadd 34 dX12_keyAt_33 rfl ?_
  refine e_aload_n (i := 0) 35 dX12_keyAt_34 rfl rfl rfl ?_
  refine e_geti (j := 7) 38 fl_12_100 dX12_keyAt_35 at_928 (by decide) rfl rfl (fun r35 => ?_)
  simp (disch := omega) only [put_r6, put_w6, put_r7, put_w7, put_r9, put_w9, put_r10, put_w10, put_r11, put_w11, put_r12, put_w12, put_r13, put_w13, put_r14, put_w14, put_r15, put_w15, put_ra, put_r8, put_r0, put_rt, put_wa, u1, u2, hn8] at r35 ⊢
  refine e_icmp_ge 41 69 dX12_keyAt_38 (by omega) (by omega) (by decide) rfl (fun b38 => ?_) (fun b38 => ?_)
  · skip
    refine e_ldcS 71 (i := 20) (by decide) rfl rfl dX12_keyAt_69 rfl ?_
    refine e_iload_n (i := 2) 72 dX12_keyAt_71 rfl rfl rfl ?_
    refine e_iload_n (i := 3) 73 dX12_keyAt_72 rfl rfl rfl ?_
    refine e_iadd 74 dX12_keyAt_73 rfl ?_
    refine e_callF (av := [jI _]) 77 (i := 20) (by decide) mt_yJ_charAt mv_yJ_charAt wd_1410 (by decide) dX12_keyAt_74 rfl rfl rfl (Nat.le_of_ble_eq_true rfl) (jroom (by decide)) rfl (c_charAt (i := 20) (k := 54) (z := 105) (by decide) (by decide) (by decide +kernel) ?_)
    dsimp only [jpush]
    (try simp (disch := omega) only [put_r6, put_w6, put_r7, put_w7, put_r9, put_w9, put_r10, put_w10, put_r11, put_w11, put_r12, put_w12, put_r13, put_w13, put_r14, put_w14, put_r15, put_w15, put_ra, put_r8, put_r0, put_rt, put_wa, u1, u2, hn8])
    refine e_bipush 79 dX12_keyAt_77 (by decide) rfl ?_
    refine e_icmp_ne 82 97 dX12_keyAt_79 (by decide) (by decide) (by decide) rfl (fun _ => ?_) (fun h => absurd h (by decide))
    refine e_ls (ls2 := [(0, _), (1, _), (2, _)]) rfl ?_
    refine sk_10 (kk_11 hT hp hb ?_)
    rw [kx10, if_neg (fun q => by omega)] at h
    exact h
  · skip
    refine e_aload_n (i := 0) 42 dX12_keyAt_41 rfl rfl rfl ?_
    refine e_getr (j := 3) 45 fl_12_21 dX12_keyAt_42 at_928 rfl rfl tp_928_3 rfl ?_
    refine e_aload_n (i := 0) 46 dX12_keyAt_45 rfl rfl rfl ?_
    refine e_geti (j := 6) 49 fl_12_97 dX12_keyAt_46 at_928 (by decide) rfl rfl (fun r46 => ?_)
    simp (disch := omega) only [put_r6, put_w6, put_r7, put_w7, put_r9, put_w9, put_r10, put_w10, put_r11, put_w11, put_r12, put_w12, put_r13, put_w13, put_r14, put_w14, put_r15, put_w15, put_ra, put_r8, put_r0, put_rt, put_wa, u1, u2, hn8] at r46 ⊢
    refine e_iload_n (i := 3) 50 dX12_keyAt_49 rfl rfl rfl ?_
    refine e_iadd 51 dX12_keyAt_50 rfl ?_
    refine e_iald 52 dX12_keyAt_51 ar_931 (by omega) (by omega) rfl (fun r51 => ?_)
    simp (disch := omega) only [put_r6, put_w6, put_r7, put_w7, put_r9, put_w9, put_r10, put_w10, put_r11, put_w11, put_r12, put_w12, put_r13, put_w13, put_r14, put_w14, put_r15, put_w15, put_ra, put_r8, put_r0, put_rt, put_wa, u1, u2, hn8, Int.reduceAdd, Int.add_zero] at r51 ⊢
    refine e_ldcS 54 (i := 20) (by decide) rfl rfl dX12_keyAt_52 rfl ?_
    refine e_iload_n (i := 2) 55 dX12_keyAt_54 rfl rfl rfl ?_
    refine e_iload_n (i := 3) 56 dX12_keyAt_55 rfl rfl rfl ?_
    refine e_iadd 57 dX12_keyAt_56 rfl ?_
    refine e_callF (av := [jI _]) 60 (i := 20) (by decide) mt_yJ_charAt mv_yJ_charAt wd_1410 (by decide) dX12_keyAt_57 rfl rfl rfl (Nat.le_of_ble_eq_true rfl) (jroom (by decide)) rfl (c_charAt (i := 20) (k := 54) (z := 105) (by decide) (by decide) (by decide +kernel) ?_)
    dsimp only [jpush]
    (try simp (disch := omega) only [put_r6, put_w6, put_r7, put_w7, put_r9, put_w9, put_r10, put_w10, put_r11, put_w11, put_r12, put_w12, put_r13, put_w13, put_r14, put_w14, put_r15, put_w15, put_ra, put_r8, put_r0, put_rt, put_wa, u1, u2, hn8])
    refine e_icmp_ne 63 69 dX12_keyAt_60 (by omega) (by decide) (by decide) rfl (fun b60 => ?_) (fun b60 => ?_)
    · skip
      refine e_ldcS 71 (i := 20) (by decide) rfl rfl dX12_keyAt_69 rfl ?_
      refine e_iload_n (i := 2) 72 dX12_keyAt_71 rfl rfl rfl ?_
      refine e_iload_n (i := 3) 73 dX12_keyAt_72 rfl rfl rfl ?_
      refine e_iadd 74 dX12_keyAt_73 rfl ?_
      refine e_callF (av := [jI _]) 77 (i := 20) (by decide) mt_yJ_charAt mv_yJ_charAt wd_1410 (by decide) dX12_keyAt_74 rfl rfl rfl (Nat.le_of_ble_eq_true rfl) (jroom (by decide)) rfl (c_charAt (i := 20) (k := 54) (z := 105) (by decide) (by decide) (by decide +kernel) ?_)
      dsimp only [jpush]
      (try simp (disch := omega) only [put_r6, put_w6, put_r7, put_w7, put_r9, put_w9, put_r10, put_w10, put_r11, put_w11, put_r12, put_w12, put_r13, put_w13, put_r14, put_w14, put_r15, put_w15, put_ra, put_r8, put_r0, put_rt, put_wa, u1, u2, hn8])
      refine e_bipush 79 dX12_keyAt_77 (by decide) rfl ?_
      refine e_icmp_ne 82 97 dX12_keyAt_79 (by decide) (by decide) (by decide) rfl (fun _ => ?_) (fun h => absurd h (by decide))
      refine e_ls (ls2 := [(0, _), (1, _), (2, _)]) rfl ?_
      refine sk_10 (kk_11 hT hp hb ?_)
      rw [kx10, if_neg (fun q => by omega)] at h
      exact h
    · skip
      refine e_iinc (lsn := [(3, _), (0, _), (1, _), (2, _)]) 66 dX12_keyAt_63 rfl (by decide) rfl rfl ?_
      refine e_goto 15 dX12_keyAt_66 (by decide) ?_
      refine e_ldcS 17 (i := 20) (by decide) rfl rfl dX12_keyAt_15 rfl ?_
      refine e_iload_n (i := 2) 18 dX12_keyAt_17 rfl rfl rfl ?_
      refine e_iload_n (i := 3) 19 dX12_keyAt_18 rfl rfl rfl ?_
      refine e_iadd 20 dX12_keyAt_19 rfl ?_
      refine e_callF (av := [jI _]) 23 (i := 20) (by decide) mt_yJ_charAt mv_yJ_charAt wd_1410 (by decide) dX12_keyAt_20 rfl rfl rfl (Nat.le_of_ble_eq_true rfl) (jroom (by decide)) rfl (c_charAt (i := 20) (k := 55) (z := 102) (by decide) (by decide) (by decide +kernel) ?_)
      dsimp only [jpush]
      (try simp (disch := omega) only [put_r6, put_w6, put_r7, put_w7, put_r9, put_w9, put_r10, put_w10, put_r11, put_w11, put_r12, put_w12, put_r13, put_w13, put_r14, put_w14, put_r15, put_w15, put_ra, put_r8, put_r0, put_rt, put_wa, u1, u2, hn8])
      refine e_bipush 25 dX12_keyAt_23 (by decide) rfl ?_
      refine e_icmp_eq 28 69 dX12_keyAt_25 (by decide) (by decide) (by decide) rfl (fun h => absurd h (by decide)) (fun _ => ?_)
      refine e_aload_n (i := 0) 29 dX12_keyAt_28 rfl rfl rfl ?_
      refine e_geti (j := 6) 32 fl_12_97 dX12_keyAt_29 at_928 (by decide) rfl rfl (fun r29 => ?_)
      simp (disch := omega) only [put_r6, put_w6, put_r7, put_w7, put_r9, put_w9, put_r10, put_w10, put_r11, put_w11, put_r12, put_w12, put_r13, put_w13, put_r14, put_w14, put_r15, put_w15, put_ra, put_r8, put_r0, put_rt, put_wa, u1, u2, hn8] at r29 ⊢
      refine e_iload_n (i := 3) 33 dX12_keyAt_32 rfl rfl rfl ?_
      refine e_iadd 34 dX12_keyAt_33 rfl ?_
      refine e_aload_n (i := 0) 35 dX12_keyAt_34 rfl rfl rfl ?_
      refine e_geti (j := 7) 38 fl_12_100 dX12_keyAt_35 at_928 (by decide) rfl rfl (fun r35 => ?_)
      simp (disch := omega) only [put_r6, put_w6, put_r7, put_w7, put_r9, put_w9, put_r10, put_w10, put_r11, put_w11, put_r12, put_w12, put_r13, put_w13, put_r14, put_w14, put_r15, put_w15, put_ra, put_r8, put_r0, put_rt, put_wa, u1, u2, hn8] at r35 ⊢
      refine e_icmp_ge 41 69 dX12_keyAt_38 (by omega) (by omega) (by decide) rfl (fun b38 => ?_) (fun b38 => ?_)
      · skip
        refine e_ldcS 71 (i := 20) (by decide) rfl rfl dX12_keyAt_69 rfl ?_
        refine e_iload_n (i := 2) 72 dX12_keyAt_71 rfl rfl rfl ?_
        refine e_iload_n (i := 3) 73 dX12_keyAt_72 rfl rfl rfl ?_
        refine e_iadd 74 dX12_keyAt_73 rfl ?_
        refine e_callF (av := [jI _]) 77 (i := 20) (by decide) mt_yJ_charAt mv_yJ_charAt wd_1410 (by decide) dX12_keyAt_74 rfl rfl rfl (Nat.le_of_ble_eq_true rfl) (jroom (by decide)) rfl (c_charAt (i := 20) (k := 55) (z := 102) (by decide) (by decide) (by decide +kernel) ?_)
        dsimp only [jpush]
        (try simp (disch := omega) only [put_r6, put_w6, put_r7, put_w7, put_r9, put_w9, put_r10, put_w10, put_r11, put_w11, put_r12, put_w12, put_r13, put_w13, put_r14, put_w14, put_r15, put_w15, put_ra, put_r8, put_r0, put_rt, put_wa, u1, u2, hn8])
        refine e_bipush 79 dX12_keyAt_77 (by decide) rfl ?_
        refine e_icmp_ne 82 97 dX12_keyAt_79 (by decide) (by decide) (by decide) rfl (fun _ => ?_) (fun h => absurd h (by decide))
        refine e_ls (ls2 := [(0, _), (1, _), (2, _)]) rfl ?_
        refine sk_10 (kk_11 hT hp hb ?_)
        rw [kx10, if_neg (fun q => by omega)] at h
        exact h
      · skip
        refine e_aload_n (i := 0) 42 dX12_keyAt_41 rfl rfl rfl ?_
        refine e_getr (j := 3) 45 fl_12_21 dX12_keyAt_42 at_928 rfl rfl tp_928_3 rfl ?_
        refine e_aload_n (i := 0) 46 dX12_keyAt_45 rfl rfl rfl ?_
        refine e_geti (j := 6) 49 fl_12_97 dX12_keyAt_46 at_928 (by decide) rfl rfl (fun r46 => ?_)
        simp (disch := omega) only [put_r6, put_w6, put_r7, put_w7, put_r9, put_w9, put_r10, put_w10, put_r11, put_w11, put_r12, put_w12, put_r13, put_w13, put_r14, put_w14, put_r15, put_w15, put_ra, put_r8, put_r0, put_rt, put_wa, u1, u2, hn8] at r46 ⊢
        refine e_iload_n (i := 3) 50 dX12_keyAt_49 rfl rfl rfl ?_
        refine e_iadd 51 dX12_keyAt_50 rfl ?_
        refine e_iald 52 dX12_keyAt_51 ar_931 (by omega) (by omega) rfl (fun r51 => ?_)
        simp (disch := omega) only [put_r6, put_w6, put_r7, put_w7, put_r9, put_w9, put_r10, put_w10, put_r11, put_w11, put_r12, put_w12, put_r13, put_w13, put_r14, put_w14, put_r15, put_w15, put_ra, put_r8, put_r0, put_rt, put_wa, u1, u2, hn8, Int.reduceAdd, Int.add_zero] at r51 ⊢
        refine e_ldcS 54 (i := 20) (by decide) rfl rfl dX12_keyAt_52 rfl ?_
        refine e_iload_n (i := 2) 55 dX12_keyAt_54 rfl rfl rfl ?_
        refine e_iload_n (i := 3) 56 dX12_keyAt_55 rfl rfl rfl ?_
        refine e_iadd 57 dX12_keyAt_56 rfl ?_
        refine e_callF (av := [jI _]) 60 (i := 20) (by decide) mt_yJ_charAt mv_yJ_charAt wd_1410 (by decide) dX12_keyAt_57 rfl rfl rfl (Nat.le_of_ble_eq_true rfl) (jroom (by decide)) rfl (c_charAt (i := 20) (k := 55) (z := 102) (by decide) (by decide) (by decide +kernel) ?_)
        dsimp only [jpush]
        (try simp (disch := omega) only [put_r6, put_w6, put_r7, put_w7, put_r9, put_w9, put_r10, put_w10, put_r11, put_w11, put_r12, put_w12, put_r13, put_w13, put_r14, put_w14, put_r15, put_w15, put_ra, put_r8, put_r0, put_rt, put_wa, u1, u2, hn8])
        refine e_icmp_ne 63 69 dX12_keyAt_60 (by omega) (by decide) (by decide) rfl (fun b60 => ?_) (fun b60 => ?_)
        · skip
          refine e_ldcS 71 (i := 20) (by decide) rfl rfl dX12_keyAt_69 rfl ?_
          refine e_iload_n (i := 2) 72 dX12_keyAt_71 rfl rfl rfl ?_
          refine e_iload_n (i := 3) 73 dX12_keyAt_72 rfl rfl rfl ?_
          refine e_iadd 74 dX12_keyAt_73 rfl ?_
          refine e_callF (av := [jI _]) 77 (i := 20) (by decide) mt_yJ_charAt mv_yJ_charAt wd_1410 (by decide) dX12_keyAt_74 rfl rfl rfl (Nat.le_of_ble_eq_true rfl) (jroom (by decide)) rfl (c_charAt (i := 20) (k := 55) (z := 102) (by decide) (by decide) (by decide +kernel) ?_)
          dsimp only [jpush]
          (try simp (disch := omega) only [put_r6, put_w6, put_r7, put_w7, put_r9, put_w9, put_r10, put_w10, put_r11, put_w11, put_r12, put_w12, put_r13, put_w13, put_r14, put_w14, put_r15, put_w15, put_ra, put_r8, put_r0, put_rt, put_wa, u1, u2, hn8])
          refine e_bipush 79 dX12_keyAt_77 (by decide) rfl ?_
          refine e_icmp_ne 82 97 dX12_keyAt_79 (by decide) (by decide) (by decide) rfl (fun _ => ?_) (fun h => absurd h (by decide))
          refine e_ls (ls2 := [(0, _), (1, _), (2, _)]) rfl ?_
          refine sk_10 (kk_11 hT hp hb ?_)
          rw [kx10, if_neg (fun q => by omega)] at h
          exact h
        · skip
          refine e_iinc (lsn := [(3, _), (0, _), (1, _), (2, _)]) 66 dX12_keyAt_63 rfl (by decide) rfl rfl ?_
          refine e_goto 15 dX12_keyAt_66 (by decide) ?_
          refine e_ldcS 17 (i := 20) (by decide) rfl rfl dX12_keyAt_15 rfl ?_
          refine e_iload_n (i := 2) 18 dX12_keyAt_17 rfl rfl rfl ?_
          refine e_iload_n (i := 3) 19 dX12_keyAt_18 rfl rfl rfl ?_
          refine e_iadd 20 dX12_keyAt_19 rfl ?_
          refine e_callF (av := [jI _]) 23 (i := 20) (by decide) mt_yJ_charAt mv_yJ_charAt wd_1410 (by decide) dX12_keyAt_20 rfl rfl rfl (Nat.le_of_ble_eq_true rfl) (jroom (by decide)) rfl (c_charAt (i := 20) (k := 56) (z := 32) (by decide) (by decide) (by decide +kernel) ?_)
          dsimp only [jpush]
          (try simp (disch := omega) only [put_r6, put_w6, put_r7, put_w7, put_r9, put_w9, put_r10, put_w10, put_r11, put_w11, put_r12, put_w12, put_r13, put_w13, put_r14, put_w14, put_r15, put_w15, put_ra, put_r8, put_r0, put_rt, put_wa, u1, u2, hn8])
          refine e_bipush 25 dX12_keyAt_23 (by decide) rfl ?_
          refine e_icmp_eq 28 69 dX12_keyAt_25 (by decide) (by decide) (by decide) rfl (fun _ => ?_) (fun h => absurd h (by decide))
          refine e_ldcS 71 (i := 20) (by decide) rfl rfl dX12_keyAt_69 rfl ?_
          refine e_iload_n (i := 2) 72 dX12_keyAt_71 rfl rfl rfl ?_
          refine e_iload_n (i := 3) 73 dX12_keyAt_72 rfl rfl rfl ?_
          refine e_iadd 74 dX12_keyAt_73 rfl ?_
          refine e_callF (av := [jI _]) 77 (i := 20) (by decide) mt_yJ_charAt mv_yJ_charAt wd_1410 (by decide) dX12_keyAt_74 rfl rfl rfl (Nat.le_of_ble_eq_true rfl) (jroom (by decide)) rfl (c_charAt (i := 20) (k := 56) (z := 32) (by decide) (by decide) (by decide +kernel) ?_)
          dsimp only [jpush]
          (try simp (disch := omega) only [put_r6, put_w6, put_r7, put_w7, put_r9, put_w9, put_r10, put_w10, put_r11, put_w11, put_r12, put_w12, put_r13, put_w13, put_r14, put_w14, put_r15, put_w15, put_ra, put_r8, put_r0, put_rt, put_wa, u1, u2, hn8])
          refine e_bipush 79 dX12_keyAt_77 (by decide) rfl ?_
          refine e_icmp_ne 82 97 dX12_keyAt_79 (by decide) (by decide) (by decide) rfl (fun h => absurd h (by decide)) (fun _ => ?_)
          refine e_aload_n (i := 0) 83 dX12_keyAt_82 rfl rfl rfl ?_
          refine e_geti (j := 6) 86 fl_12_97 dX12_keyAt_83 at_928 (by decide) rfl rfl (fun r83 => ?_)
          simp (disch := omega) only [put_r6, put_w6, put_r7, put_w7, put_r9, put_w9, put_r10, put_w10, put_r11, put_w11, put_r12, put_w12, put_r13, put_w13, put_r14, put_w14, put_r15, put_w15, put_ra, put_r8, put_r0, put_rt, put_wa, u1, u2, hn8] at r83 ⊢
          refine e_iload_n (i := 3) 87 dX12_keyAt_86 rfl rfl rfl ?_
          refine e_iadd 88 dX12_keyAt_87 rfl ?_
          refine e_aload_n (i := 0) 89 dX12_keyAt_88 rfl rfl rfl ?_
          refine e_geti (j := 7) 92 fl_12_100 dX12_keyAt_89 at_928 (by decide) rfl rfl (fun r89 => ?_)
          simp (disch := omega) only [put_r6, put_w6, put_r7, put_w7, put_r9, put_w9, put_r10, put_w10, put_r11, put_w11, put_r12, put_w12, put_r13, put_w13, put_r14, put_w14, put_r15, put_w15, put_ra, put_r8, put_r0, put_rt, put_wa, u1, u2, hn8] at r89 ⊢
          refine e_icmp_ne 95 97 dX12_keyAt_92 (by omega) (by omega) (by decide) rfl (fun b92 => ?_) (fun b92 => ?_)
          · skip
            refine e_ls (ls2 := [(0, _), (1, _), (2, _)]) rfl ?_
            refine sk_10 (kk_11 hT hp hb ?_)
            rw [kx10, if_neg (fun q => by omega)] at h
            exact h
          · skip
            refine e_iload_n (i := 1) 96 dX12_keyAt_95 rfl rfl rfl ?_
            refine e_iret dX12_keyAt_96 ?_
            rw [kx10, if_pos (by omega)] at h
            exact h

theorem sk_9 {X : jX} {Y : jM} {Q : Int → jM → Prop} (h : jE X yX12_keyAt cX12_keyAt 4 (some .int) 5 Q Y 4 [(0, jR 928), (1, jI 10), (2, jI 54)] []) : jE X yX12_keyAt cX12_keyAt 4 (some .int) 5 Q Y 97 [(0, jR 928), (1, jI 9), (2, jI 49)] [] := by
  refine e_ldcS 99 (i := 20) (by decide) rfl rfl dX12_keyAt_97 rfl ?_
  refine e_iload_n (i := 2) 100 dX12_keyAt_99 rfl rfl rfl ?_
  refine e_callF (av := [jI _]) 103 (i := 20) (by decide) mt_yJ_charAt mv_yJ_charAt wd_1410 (by decide) dX12_keyAt_100 rfl rfl rfl (Nat.le_of_ble_eq_true rfl) (jroom (by decide)) rfl (c_charAt (i := 20) (k := 49) (z := 115) (by decide) (by decide) (by decide +kernel) ?_)
  dsimp only [jpush]
  refine e_bipush 105 dX12_keyAt_103 (by decide) rfl ?_
  refine e_icmp_eq 108 114 dX12_keyAt_105 (by decide) (by decide) (by decide) rfl (fun h => absurd h (by decide)) (fun _ => ?_)
  refine e_iinc (lsn := [(2, _), (0, _), (1, _)]) 111 dX12_keyAt_108 rfl (by decide) rfl rfl ?_
  refine e_goto 97 dX12_keyAt_111 (by decide) ?_
  refine e_ldcS 99 (i := 20) (by decide) rfl rfl dX12_keyAt_97 rfl ?_
  refine e_iload_n (i := 2) 100 dX12_keyAt_99 rfl rfl rfl ?_
  refine e_callF (av := [jI _]) 103 (i := 20) (by decide) mt_yJ_charAt mv_yJ_charAt wd_1410 (by decide) dX12_keyAt_100 rfl rfl rfl (Nat.le_of_ble_eq_true rfl) (jroom (by decide)) rfl (c_charAt (i := 20) (k := 50) (z := 101) (by decide) (by decide) (by decide +kernel) ?_)
  dsimp only [jpush]
  refine e_bipush 105 dX12_keyAt_103 (by decide) rfl ?_
  refine e_icmp_eq 108 114 dX12_keyAt_105 (by decide) (by decide) (by decide) rfl (fun h => absurd h (by decide)) (fun _ => ?_)
  refine e_iinc (lsn := [(2, _), (0, _), (1, _)]) 111 dX12_keyAt_108 rfl (by decide) rfl rfl ?_
  refine e_goto 97 dX12_keyAt_111 (by decide) ?_
  refine e_ldcS 99 (i := 20) (by decide) rfl rfl dX12_keyAt_97 rfl ?_
  refine e_iload_n (i := 2) 100 dX12_keyAt_99 rfl rfl rfl ?_
  refine e_callF (av := [jI _]) 103 (i := 20) (by decide) mt_yJ_charAt mv_yJ_charAt wd_1410 (by decide) dX12_keyAt_100 rfl rfl rfl (Nat.le_of_ble_eq_true rfl) (jroom (by decide)) rfl (c_charAt (i := 20) (k := 51) (z := 101) (by decide) (by decide) (by decide +kernel) ?_)
  dsimp only [jpush]
  refine e_bipush 105 dX12_keyAt_103 (by decide) rfl ?_
  refine e_icmp_eq 108 114 dX12_keyAt_105 (by decide) (by decide) (by decide) rfl (fun h => absurd h (by decide)) (fun _ => ?_)
  refine e_iinc (lsn := [(2, _), (0, _), (1, _)]) 111 dX12_keyAt_108 rfl (by decide) rfl rfl ?_
  refine e_goto 97 dX12_keyAt_111 (by decide) ?_
  refine e_ldcS 99 (i := 20) (by decide) rfl rfl dX12_keyAt_97 rfl ?_
  refine e_iload_n (i := 2) 100 dX12_keyAt_99 rfl rfl rfl ?_
  refine e_callF (av := [jI _]) 103 (i := 20) (by decide) mt_yJ_charAt mv_yJ_charAt wd_1410 (by decide) dX12_keyAt_100 rfl rfl rfl (Nat.le_of_ble_eq_true rfl) (jroom (by decide)) rfl (c_charAt (i := 20) (k := 52) (z := 107) (by decide) (by decide) (by decide +kernel) ?_)
  dsimp only [jpush]
  refine e_bipush 105 dX12_keyAt_103 (by decide) rfl ?_
  refine e_icmp_eq 108 114 dX12_keyAt_105 (by decide) (by decide) (by decide) rfl (fun h => absurd h (by decide)) (fun _ => ?_)
  refine e_iinc (lsn := [(2, _), (0, _), (1, _)]) 111 dX12_keyAt_108 rfl (by decide) rfl rfl ?_
  refine e_goto 97 dX12_keyAt_111 (by decide) ?_
  refine e_ldcS 99 (i := 20) (by decide) rfl rfl dX12_keyAt_97 rfl ?_
  refine e_iload_n (i := 2) 100 dX12_keyAt_99 rfl rfl rfl ?_
  refine e_callF (av := [jI _]) 103 (i := 20) (by decide) mt_yJ_charAt mv_yJ_charAt wd_1410 (by decide) dX12_keyAt_100 rfl rfl rfl (Nat.le_of_ble_eq_true rfl) (jroom (by decide)) rfl (c_charAt (i := 20) (k := 53) (z := 32) (by decide) (by decide) (by decide +kernel) ?_)
  dsimp only [jpush]
  refine e_bipush 105 dX12_keyAt_103 (by decide) rfl ?_
  refine e_icmp_eq 108 114 dX12_keyAt_105 (by decide) (by decide) (by decide) rfl (fun _ => ?_) (fun h => absurd h (by decide))
  refine e_iinc (lsn := [(2, _), (0, _), (1, _)]) 117 dX12_keyAt_114 rfl (by decide) rfl rfl ?_
  refine e_iinc (lsn := [(1, _), (2, _), (0, _)]) 120 dX12_keyAt_117 rfl (by decide) rfl rfl ?_
  refine e_goto 4 dX12_keyAt_120 (by decide) ?_
  refine e_ls (ls2 := [(0, _), (1, _), (2, _)]) rfl ?_
  exact h

theorem kk_9 {X : jX} {M : jM} {n : Int} {Q : Int → jM → Prop} (hT : RT M n) {s : PS} (hp : 0 ≤ s.1) (hb : s.1 ≤ s.2.1 ∧ s.2.1 ≤ n) (h : Q (kx9 (M 931) s.1 s.2.1) (put M s)) : jE X yX12_keyAt cX12_keyAt 4 (some .int) 5 Q (put M s) 4 [(0, jR 928), (1, jI 9), (2, jI 49)] [] := by
  have hn8 := hT.1
  have hn := hT.2.1
  refine e_iload_n (i := 2) 5 dX12_keyAt_4 rfl rfl rfl ?_
  refine e_ldcS 7 (i := 20) (by decide) rfl rfl dX12_keyAt_5 rfl ?_
  refine e_callF (av := []) 10 (i := 20) (by decide) mt_yJ_len mv_yJ_len wd_1409 (by decide) dX12_keyAt_7 rfl rfl rfl (Nat.le_of_ble_eq_true rfl) (jroom (by decide)) rfl (c_strlen (i := 20) (z := 99) (by decide) (by decide) ?_)
  dsimp only [jpush]
  (try simp (disch := omega) only [put_r6, put_w6, put_r7, put_w7, put_r9, put_w9, put_r10, put_w10, put_r11, put_w11, put_r12, put_w12, put_r13, put_w13, put_r14, put_w14, put_r15, put_w15, put_ra, put_r8, put_r0, put_rt, put_wa, u1, u2, hn8])
  refine e_icmp_ge 13 123 dX12_keyAt_10 (by decide) (by decide) (by decide) rfl (fun h => absurd h (by decide)) (fun _ => ?_)
  refine e_iconst 14 dX12_keyAt_13 rfl ?_
  refine e_istore_n (i := 3) (lsn := [(3, _), (0, _), (1, _), (2, _)]) 15 dX12_keyAt_14 rfl (by decide) rfl rfl ?_
  refine e_ldcS 17 (i := 20) (by decide) rfl rfl dX12_keyAt_15 rfl ?_
  refine e_iload_n (i := 2) 18 dX12_keyAt_17 rfl rfl rfl ?_
  refine e_iload_n (i := 3) 19 dX12_keyAt_18 rfl rfl rfl ?_
  refine e_iadd 20 dX12_keyAt_19 rfl ?_
  refine e_callF (av := [jI _]) 23 (i := 20) (by decide) mt_yJ_charAt mv_yJ_charAt wd_1410 (by decide) dX12_keyAt_20 rfl rfl rfl (Nat.le_of_ble_eq_true rfl) (jroom (by decide)) rfl (c_charAt (i := 20) (k := 49) (z := 115) (by decide) (by decide) (by decide +kernel) ?_)
  dsimp only [jpush]
  (try simp (disch := omega) only [put_r6, put_w6, put_r7, put_w7, put_r9, put_w9, put_r10, put_w10, put_r11, put_w11, put_r12, put_w12, put_r13, put_w13, put_r14, put_w14, put_r15, put_w15, put_ra, put_r8, put_r0, put_rt, put_wa, u1, u2, hn8])
  refine e_bipush 25 dX12_keyAt_23 (by decide) rfl ?_
  refine e_icmp_eq 28 69 dX12_keyAt_25 (by decide) (by decide) (by decide) rfl (fun h => absurd h (by decide)) (fun _ => ?_)
  refine e_aload_n (i := 0) 29 dX12_keyAt_28 rfl rfl rfl ?_
  refine e_geti (j := 6) 32 fl_12_97 dX12_keyAt_29 at_928 (by decide) rfl rfl (fun r29 => ?_)
  simp (disch := omega) only [put_r6, put_w6, put_r7, put_w7, put_r9, put_w9, put_r10, put_w10, put_r11, put_w11, put_r12, put_w12, put_r13, put_w13, put_r14, put_w14, put_r15, put_w15, put_ra, put_r8, put_r0, put_rt, put_wa, u1, u2, hn8] at r29 ⊢
  refine e_iload_n (i := 3) 33 dX12_keyAt_32 rfl rfl rfl ?_
  refine e_iadd 34 dX12_keyAt_33 rfl ?_
  refine e_aload_n (i := 0) 35 dX12_keyAt_34 rfl rfl rfl ?_
  refine e_geti (j := 7) 38 fl_12_100 dX12_keyAt_35 at_928 (by decide) rfl rfl (fun r35 => ?_)
  simp (disch := omega) only [put_r6, put_w6, put_r7, put_w7, put_r9, put_w9, put_r10, put_w10, put_r11, put_w11, put_r12, put_w12, put_r13, put_w13, put_r14, put_w14, put_r15, put_w15, put_ra, put_r8, put_r0, put_rt, put_wa, u1, u2, hn8] at r35 ⊢
  refine e_icmp_ge 41 69 dX12_keyAt_38 (by omega) (by omega) (by decide) rfl (fun b38 => ?_) (fun b38 => ?_)
  · skip
    refine e_ldcS 71 (i := 20) (by decide) rfl rfl dX12_keyAt_69 rfl ?_
    refine e_iload_n (i := 2) 72 dX12_keyAt_71 rfl rfl rfl ?_
    refine e_iload_n (i := 3) 73 dX12_keyAt_72 rfl rfl rfl ?_
    refine e_iadd 74 dX12_keyAt_73 rfl ?_
    refine e_callF (av := [jI _]) 77 (i := 20) (by decide) mt_yJ_charAt mv_yJ_charAt wd_1410 (by decide) dX12_keyAt_74 rfl rfl rfl (Nat.le_of_ble_eq_true rfl) (jroom (by decide)) rfl (c_charAt (i := 20) (k := 49) (z := 115) (by decide) (by decide) (by decide +kernel) ?_)
    dsimp only [jpush]
    (try simp (disch := omega) only [put_r6, put_w6, put_r7, put_w7, put_r9, put_w9, put_r10, put_w10, put_r11, put_w11, put_r12, put_w12, put_r13, put_w13, put_r14, put_w14, put_r15, put_w15, put_ra, put_r8, put_r0, put_rt, put_wa, u1, u2, hn8])
    refine e_bipush 79 dX12_keyAt_77 (by decide) rfl ?_
    refine e_icmp_ne 82 97 dX12_keyAt_79 (by decide) (by decide) (by decide) rfl (fun _ => ?_) (fun h => absurd h (by decide))
    refine e_ls (ls2 := [(0, _), (1, _), (2, _)]) rfl ?_
    refine sk_9 (kk_10 hT hp hb ?_)
    rw [kx9, if_neg (fun q => by omega)] at h
    exact h
  · skip
    refine e_aload_n (i := 0) 42 dX12_keyAt_41 rfl rfl rfl ?_
    refine e_getr (j := 3) 45 fl_12_21 dX12_keyAt_42 at_928 rfl rfl tp_928_3 rfl ?_
    refine e_aload_n (i := 0) 46 dX12_keyAt_45 rfl rfl rfl ?_
    refine e_geti (j := 6) 49 fl_12_97 dX12_keyAt_46 at_928 (by decide) rfl rfl (fun r46 => ?_)
    simp (disch := omega) only [put_r6, put_w6, put_r7, put_w7, put_r9, put_w9, put_r10, put_w10, put_r11, put_w11, put_r12, put_w12, put_r13, put_w13, put_r14, put_w14, put_r15, put_w15, put_ra, put_r8, put_r0, put_rt, put_wa, u1, u2, hn8] at r46 ⊢
    refine e_iload_n (i := 3) 50 dX12_keyAt_49 rfl rfl rfl ?_
    refine e_iadd 51 dX12_keyAt_50 rfl ?_
    refine e_iald 52 dX12_keyAt_51 ar_931 (by omega) (by omega) rfl (fun r51 => ?_)
    simp (disch := omega) only [put_r6, put_w6, put_r7, put_w7, put_r9, put_w9, put_r10, put_w10, put_r11, put_w11, put_r12, put_w12, put_r13, put_w13, put_r14, put_w14, put_r15, put_w15, put_ra, put_r8, put_r0, put_rt, put_wa, u1, u2, hn8, Int.reduceAdd, Int.add_zero] at r51 ⊢
    refine e_ldcS 54 (i := 20) (by decide) rfl rfl dX12_keyAt_52 rfl ?_
    refine e_iload_n (i := 2) 55 dX12_keyAt_54 rfl rfl rfl ?_
    refine e_iload_n (i := 3) 56 dX12_keyAt_55 rfl rfl rfl ?_
    refine e_iadd 57 dX12_keyAt_56 rfl ?_
    refine e_callF (av := [jI _]) 60 (i := 20) (by decide) mt_yJ_charAt mv_yJ_charAt wd_1410 (by decide) dX12_keyAt_57 rfl rfl rfl (Nat.le_of_ble_eq_true rfl) (jroom (by decide)) rfl (c_charAt (i := 20) (k := 49) (z := 115) (by decide) (by decide) (by decide +kernel) ?_)
    dsimp only [jpush]
    (try simp (disch := omega) only [put_r6, put_w6, put_r7, put_w7, put_r9, put_w9, put_r10, put_w10, put_r11, put_w11, put_r12, put_w12, put_r13, put_w13, put_r14, put_w14, put_r15, put_w15, put_ra, put_r8, put_r0, put_rt, put_wa, u1, u2, hn8])
    refine e_icmp_ne 63 69 dX12_keyAt_60 (by omega) (by decide) (by decide) rfl (fun b60 => ?_) (fun b60 => ?_)
    · skip
      refine e_ldcS 71 (i := 20) (by decide) rfl rfl dX12_keyAt_69 rfl ?_
      refine e_iload_n (i := 2) 72 dX12_keyAt_71 rfl rfl rfl ?_
      refine e_iload_n (i := 3) 73 dX12_keyAt_72 rfl rfl rfl ?_
      refine e_iadd 74 dX12_keyAt_73 rfl ?_
      refine e_callF (av := [jI _]) 77 (i := 20) (by decide) mt_yJ_charAt mv_yJ_charAt wd_1410 (by decide) dX12_keyAt_74 rfl rfl rfl (Nat.le_of_ble_eq_true rfl) (jroom (by decide)) rfl (c_charAt (i := 20) (k := 49) (z := 115) (by decide) (by decide) (by decide +kernel) ?_)
      dsimp only [jpush]
      (try simp (disch := omega) only [put_r6, put_w6, put_r7, put_w7, put_r9, put_w9, put_r10, put_w10, put_r11, put_w11, put_r12, put_w12, put_r13, put_w13, put_r14, put_w14, put_r15, put_w15, put_ra, put_r8, put_r0, put_rt, put_wa, u1, u2, hn8])
      refine e_bipush 79 dX12_keyAt_77 (by decide) rfl ?_
      refine e_icmp_ne 82 97 dX12_keyAt_79 (by decide) (by decide) (by decide) rfl (fun _ => ?_) (fun h => absurd h (by decide))
      refine e_ls (ls2 := [(0, _), (1, _), (2, _)]) rfl ?_
      refine sk_9 (kk_10 hT hp hb ?_)
      rw [kx9, if_neg (fun q => by omega)] at h
      exact h
    · skip
      refine e_iinc (lsn := [(3, _), (0, _), (1, _), (2, _)]) 66 dX12_keyAt_63 rfl (by decide) rfl rfl ?_
      refine e_goto 15 dX12_keyAt_66 (by decide) ?_
      refine e_ldcS 17 (i := 20) (by decide) rfl rfl dX12_keyAt_15 rfl ?_
      refine e_iload_n (i := 2) 18 dX12_keyAt_17 rfl rfl rfl ?_
      refine e_iload_n (i := 3) 19 dX12_keyAt_18 rfl rfl rfl ?_
      refine e_iadd 20 dX12_keyAt_19 rfl ?_
      refine e_callF (av := [jI _]) 23 (i := 20) (by decide) mt_yJ_charAt mv_yJ_charAt wd_1410 (by decide) dX12_keyAt_20 rfl rfl rfl (Nat.le_of_ble_eq_true rfl) (jroom (by decide)) rfl (c_charAt (i := 20) (k := 50) (z := 101) (by decide) (by decide) (by decide +kernel) ?_)
      dsimp only [jpush]
      (try simp (disch := omega) only [put_r6, put_w6, put_r7, put_w7, put_r9, put_w9, put_r10, put_w10, put_r11, put_w11, put_r12, put_w12, put_r13, put_w13, put_r14, put_w14, put_r15, put_w15, put_ra, put_r8, put_r0, put_rt, put_wa, u1, u2, hn8])
      refine e_bipush 25 dX12_keyAt_23 (by decide) rfl ?_
      refine e_icmp_eq 28 69 dX12_keyAt_25 (by decide) (by decide) (by decide) rfl (fun h => absurd h (by decide)) (fun _ => ?_)
      refine e_aload_n (i := 0) 29 dX12_keyAt_28 rfl rfl rfl ?_
      refine e_geti (j := 6) 32 fl_12_97 dX12_keyAt_29 at_928 (by decide) rfl rfl (fun r29 => ?_)
      simp (disch := omega) only [put_r6, put_w6, put_r7, put_w7, put_r9, put_w9, put_r10, put_w10, put_r11, put_w11, put_r12, put_w12, put_r13, put_w13, put_r14, put_w14, put_r15, put_w15, put_ra, put_r8, put_r0, put_rt, put_wa, u1, u2, hn8] at r29 ⊢
      refine e_iload_n (i := 3) 33 dX12_keyAt_32 rfl rfl rfl ?_
      refine e_iadd 34 dX12_keyAt_33 rfl ?_
      refine e_aload_n (i := 0) 35 dX12_keyAt_34 rfl rfl rfl ?_
      refine e_geti (j := 7) 38 fl_12_100 dX12_keyAt_35 at_928 (by decide) rfl rfl (fun r35 => ?_)
      simp (disch := omega) only [put_r6, put_w6, put_r7, put_w7, put_r9, put_w9, put_r10, put_w10, put_r11, put_w11, put_r12, put_w12, put_r13, put_w13, put_r14, put_w14, put_r15, put_w15, put_ra, put_r8, put_r0, put_rt, put_wa, u1, u2, hn8] at r35 ⊢
      refine e_icmp_ge 41 69 dX12_keyAt_38 (by omega) (by omega) (by decide) rfl (fun b38 => ?_) (fun b38 => ?_)
      · skip
        refine e_ldcS 71 (i := 20) (by decide) rfl rfl dX12_keyAt_69 rfl ?_
        refine e_iload_n (i := 2) 72 dX12_keyAt_71 rfl rfl rfl ?_
        refine e_iload_n (i := 3) 73 dX12_keyAt_72 rfl rfl rfl ?_
        refine e_iadd 74 dX12_keyAt_73 rfl ?_
        refine e_callF (av := [jI _]) 77 (i := 20) (by decide) mt_yJ_charAt mv_yJ_charAt wd_1410 (by decide) dX12_keyAt_74 rfl rfl rfl (Nat.le_of_ble_eq_true rfl) (jroom (by decide)) rfl (c_charAt (i := 20) (k := 50) (z := 101) (by decide) (by decide) (by decide +kernel) ?_)
        dsimp only [jpush]
        (try simp (disch := omega) only [put_r6, put_w6, put_r7, put_w7, put_r9, put_w9, put_r10, put_w10, put_r11, put_w11, put_r12, put_w12, put_r13, put_w13, put_r14, put_w14, put_r15, put_w15, put_ra, put_r8, put_r0, put_rt, put_wa, u1, u2, hn8])
        refine e_bipush 79 dX12_keyAt_77 (by decide) rfl ?_
        refine e_icmp_ne 82 97 dX12_keyAt_79 (by decide) (by decide) (by decide) rfl (fun _ => ?_) (fun h => absurd h (by decide))
        refine e_ls (ls2 := [(0, _), (1, _), (2, _)]) rfl ?_
        refine sk_9 (kk_10 hT hp hb ?_)
        rw [kx9, if_neg (fun q => by omega)] at h
        exact h
      · skip
        refine e_aload_n (i := 0) 42 dX12_keyAt_41 rfl rfl rfl ?_
        refine e_getr (j := 3) 45 fl_12_21 dX12_keyAt_42 at_928 rfl rfl tp_928_3 rfl ?_
        refine e_aload_n (i := 0) 46 dX12_keyAt_45 rfl rfl rfl ?_
        refine e_geti (j := 6) 49 fl_12_97 dX12_keyAt_46 at_928 (by decide) rfl rfl (fun r46 => ?_)
        simp (disch := omega) only [put_r6, put_w6, put_r7, put_w7, put_r9, put_w9, put_r10, put_w10, put_r11, put_w11, put_r12, put_w12, put_r13, put_w13, put_r14, put_w14, put_r15, put_w15, put_ra, put_r8, put_r0, put_rt, put_wa, u1, u2, hn8] at r46 ⊢
        refine e_iload_n (i := 3) 50 dX12_keyAt_49 rfl rfl rfl ?_
        refine e_iadd 51 dX12_keyAt_50 rfl ?_
        refine e_iald 52 dX12_keyAt_51 ar_931 (by omega) (by omega) rfl (fun r51 => ?_)
        simp (disch := omega) only [put_r6, put_w6, put_r7, put_w7, put_r9, put_w9, put_r10, put_w10, put_r11, put_w11, put_r12, put_w12, put_r13, put_w13, put_r14, put_w14, put_r15, put_w15, put_ra, put_r8, put_r0, put_rt, put_wa, u1, u2, hn8, Int.reduceAdd, Int.add_zero] at r51 ⊢
        refine e_ldcS 54 (i := 20) (by decide) rfl rfl dX12_keyAt_52 rfl ?_
        refine e_iload_n (i := 2) 55 dX12_keyAt_54 rfl rfl rfl ?_
        refine e_iload_n (i := 3) 56 dX12_keyAt_55 rfl rfl rfl ?_
        refine e_iadd 57 dX12_keyAt_56 rfl ?_
        refine e_callF (av := [jI _]) 60 (i := 20) (by decide) mt_yJ_charAt mv_yJ_charAt wd_1410 (by decide) dX12_keyAt_57 rfl rfl rfl (Nat.le_of_ble_eq_true rfl) (jroom (by decide)) rfl (c_charAt (i := 20) (k := 50) (z := 101) (by decide) (by decide) (by decide +kernel) ?_)
        dsimp only [jpush]
        (try simp (disch := omega) only [put_r6, put_w6, put_r7, put_w7, put_r9, put_w9, put_r10, put_w10, put_r11, put_w11, put_r12, put_w12, put_r13, put_w13, put_r14, put_w14, put_r15, put_w15, put_ra, put_r8, put_r0, put_rt, put_wa, u1, u2, hn8])
        refine e_icmp_ne 63 69 dX12_keyAt_60 (by omega) (by decide) (by decide) rfl (fun b60 => ?_) (fun b60 => ?_)
        · skip
          refine e_ldcS 71 (i := 20) (by decide) rfl rfl dX12_keyAt_69 rfl ?_
          refine e_iload_n (i := 2) 72 dX12_keyAt_71 rfl rfl rfl ?_
          refine e_iload_n (i := 3) 73 dX12_keyAt_72 rfl rfl rfl ?_
          refine e_iadd 74 dX12_keyAt_73 rfl ?_
          refine e_callF (av := [jI _]) 77 (i := 20) (by decide) mt_yJ_charAt mv_yJ_charAt wd_1410 (by decide) dX12_keyAt_74 rfl rfl rfl (Nat.le_of_ble_eq_true rfl) (jroom (by decide)) rfl (c_charAt (i := 20) (k := 50) (z := 101) (by decide) (by decide) (by decide +kernel) ?_)
          dsimp only [jpush]
          (try simp (disch := omega) only [put_r6, put_w6, put_r7, put_w7, put_r9, put_w9, put_r10, put_w10, put_r11, put_w11, put_r12, put_w12, put_r13, put_w13, put_r14, put_w14, put_r15, put_w15, put_ra, put_r8, put_r0, put_rt, put_wa, u1, u2, hn8])
          refine e_bipush 79 dX12_keyAt_77 (by decide) rfl ?_
          refine e_icmp_ne 82 97 dX12_keyAt_79 (by decide) (by decide) (by decide) rfl (fun _ => ?_) (fun h => absurd h (by decide))
          refine e_ls (ls2 := [(0, _), (1, _), (2, _)]) rfl ?_
          refine sk_9 (kk_10 hT hp hb ?_)
          rw [kx9, if_neg (fun q => by omega)] at h
          exact h
        · skip
          refine e_iinc (lsn := [(3, _), (0, _), (1, _), (2, _)]) 66 dX12_keyAt_63 rfl (by decide) rfl rfl ?_
          refine e_goto 15 dX12_keyAt_66 (by decide) ?_
          refine e_ldcS 17 (i := 20) (by decide) rfl rfl dX12_keyAt_15 rfl ?_
          refine e_iload_n (i := 2) 18 dX12_keyAt_17 rfl rfl rfl ?_
          refine e_iload_n (i := 3) 19 dX12_keyAt_18 rfl rfl rfl ?_
          refine e_iadd 20 dX12_keyAt_19 rfl ?_
          refine e_callF (av := [jI _]) 23 (i := 20) (by decide) mt_yJ_charAt mv_yJ_charAt wd_1410 (by decide) dX12_keyAt_20 rfl rfl rfl (Nat.le_of_ble_eq_true rfl) (jroom (by decide)) rfl (c_charAt (i := 20) (k := 51) (z := 101) (by decide) (by decide) (by decide +kernel) ?_)
          dsimp only [jpush]
          (try simp (disch := omega) only [put_r6, put_w6, put_r7, put_w7, put_r9, put_w9, put_r10, put_w10, put_r11, put_w11, put_r12, put_w12, put_r13, put_w13, put_r14, put_w14, put_r15, put_w15, put_ra, put_r8, put_r0, put_rt, put_wa, u1, u2, hn8])
          refine e_bipush 25 dX12_keyAt_23 (by decide) rfl ?_
          refine e_icmp_eq 28 69 dX12_keyAt_25 (by decide) (by decide) (by decide) rfl (fun h => absurd h (by decide)) (fun _ => ?_)
          refine e_aload_n (i := 0) 29 dX12_keyAt_28 rfl rfl rfl ?_
          refine e_geti (j := 6) 32 fl_12_97 dX12_keyAt_29 at_928 (by decide) rfl rfl (fun r29 => ?_)
          simp (disch := omega) only [put_r6, put_w6, put_r7, put_w7, put_r9, put_w9, put_r10, put_w10, put_r11, put_w11, put_r12, put_w12, put_r13, put_w13, put_r14, put_w14, put_r15, put_w15, put_ra, put_r8, put_r0, put_rt, put_wa, u1, u2, hn8] at r29 ⊢
          refine e_iload_n (i := 3) 33 dX12_keyAt_32 rfl rfl rfl ?_
          refine e_iadd 34 dX12_keyAt_33 rfl ?_
          refine e_aload_n (i := 0) 35 dX12_keyAt_34 rfl rfl rfl ?_
          refine e_geti (j := 7) 38 fl_12_100 dX12_keyAt_35 at_928 (by decide) rfl rfl (fun r35 => ?_)
          simp (disch := omega) only [put_r6, put_w6, put_r7, put_w7, put_r9, put_w9, put_r10, put_w10, put_r11, put_w11, put_r12, put_w12, put_r13, put_w13, put_r14, put_w14, put_r15, put_w15, put_ra, put_r8, put_r0, put_rt, put_wa, u1, u2, hn8] at r35 ⊢
          refine e_icmp_ge 41 69 dX12_keyAt_38 (by omega) (by omega) (by decide) rfl (fun b38 => ?_) (fun b38 => ?_)
          · skip
            refine e_ldcS 71 (i := 20) (by decide) rfl rfl dX12_keyAt_69 rfl ?_
            refine e_iload_n (i := 2) 72 dX12_keyAt_71 rfl rfl rfl ?_
            refine e_iload_n (i := 3) 73 dX12_keyAt_72 rfl rfl rfl ?_
            refine e_iadd 74 dX12_keyAt_73 rfl ?_
            refine e_callF (av := [jI _]) 77 (i := 20) (by decide) mt_yJ_charAt mv_yJ_charAt wd_1410 (by decide) dX12_keyAt_74 rfl rfl rfl (Nat.le_of_ble_eq_true rfl) (jroom (by decide)) rfl (c_charAt (i := 20) (k := 51) (z := 101) (by decide) (by decide) (by decide +kernel) ?_)
            dsimp only [jpush]
            (try simp (disch := omega) only [put_r6, put_w6, put_r7, put_w7, put_r9, put_w9, put_r10, put_w10, put_r11, put_w11, put_r12, put_w12, put_r13, put_w13, put_r14, put_w14, put_r15, put_w15, put_ra, put_r8, put_r0, put_rt, put_wa, u1, u2, hn8])
            refine e_bipush 79 dX12_keyAt_77 (by decide) rfl ?_
            refine e_icmp_ne 82 97 dX12_keyAt_79 (by decide) (by decide) (by decide) rfl (fun _ => ?_) (fun h => absurd h (by decide))
            refine e_ls (ls2 := [(0, _), (1, _), (2, _)]) rfl ?_
            refine sk_9 (kk_10 hT hp hb ?_)
            rw [kx9, if_neg (fun q => by omega)] at h
            exact h
          · skip
            refine e_aload_n (i := 0) 42 dX12_keyAt_41 rfl rfl rfl ?_
            refine e_getr (j := 3) 45 fl_12_21 dX12_keyAt_42 at_928 rfl rfl tp_928_3 rfl ?_
            refine e_aload_n (i := 0) 46 dX12_keyAt_45 rfl rfl rfl ?_
            refine e_geti (j := 6) 49 fl_12_97 dX12_keyAt_46 at_928 (by decide) rfl rfl (fun r46 => ?_)
            simp (disch := omega) only [put_r6, put_w6, put_r7, put_w7, put_r9, put_w9, put_r10, put_w10, put_r11, put_w11, put_r12, put_w12, put_r13, put_w13, put_r14, put_w14, put_r15, put_w15, put_ra, put_r8, put_r0, put_rt, put_wa, u1, u2, hn8] at r46 ⊢
            refine e_iload_n (i := 3) 50 dX12_keyAt_49 rfl rfl rfl ?_
            refine e_iadd 51 dX12_keyAt_50 rfl ?_
            refine e_iald 52 dX12_keyAt_51 ar_931 (by omega) (by omega) rfl (fun r51 => ?_)
            simp (disch := omega) only [put_r6, put_w6, put_r7, put_w7, put_r9, put_w9, put_r10, put_w10, put_r11, put_w11, put_r12, put_w12, put_r13, put_w13, put_r14, put_w14, put_r15, put_w15, put_ra, put_r8, put_r0, put_rt, put_wa, u1, u2, hn8, Int.reduceAdd, Int.add_zero] at r51 ⊢
            refine e_ldcS 54 (i := 20) (by decide) rfl rfl dX12_keyAt_52 rfl ?_
            refine e_iload_n (i := 2) 55 dX12_keyAt_54 rfl rfl rfl ?_
            refine e_iload_n (i := 3) 56 dX12_keyAt_55 rfl rfl rfl ?_
            refine e_iadd 57 dX12_keyAt_56 rfl ?_
            refine e_callF (av := [jI _]) 60 (i := 20) (by decide) mt_yJ_charAt mv_yJ_charAt wd_1410 (by decide) dX12_keyAt_57 rfl rfl rfl (Nat.le_of_ble_eq_true rfl) (jroom (by decide)) rfl (c_charAt (i := 20) (k := 51) (z := 101) (by decide) (by decide) (by decide +kernel) ?_)
            dsimp only [jpush]
            (try simp (disch := omega) only [put_r6, put_w6, put_r7, put_w7, put_r9, put_w9, put_r10, put_w10, put_r11, put_w11, put_r12, put_w12, put_r13, put_w13, put_r14, put_w14, put_r15, put_w15, put_ra, put_r8, put_r0, put_rt, put_wa, u1, u2, hn8])
            refine e_icmp_ne 63 69 dX12_keyAt_60 (by omega) (by decide) (by decide) rfl (fun b60 => ?_) (fun b60 => ?_)
            · skip
              refine e_ldcS 71 (i := 20) (by decide) rfl rfl dX12_keyAt_69 rfl ?_
              refine e_iload_n (i := 2) 72 dX12_keyAt_71 rfl rfl rfl ?_
              refine e_iload_n (i := 3) 73 dX12_keyAt_72 rfl rfl rfl ?_
              refine e_iadd 74 dX12_keyAt_73 rfl ?_
              refine e_callF (av := [jI _]) 77 (i := 20) (by decide) mt_yJ_charAt mv_yJ_charAt wd_1410 (by decide) dX12_keyAt_74 rfl rfl rfl (Nat.le_of_ble_eq_true rfl) (jroom (by decide)) rfl (c_charAt (i := 20) (k := 51) (z := 101) (by decide) (by decide) (by decide +kernel) ?_)
              dsimp only [jpush]
              (try simp (disch := omega) only [put_r6, put_w6, put_r7, put_w7, put_r9, put_w9, put_r10, put_w10, put_r11, put_w11, put_r12, put_w12, put_r13, put_w13, put_r14, put_w14, put_r15, put_w15, put_ra, put_r8, put_r0, put_rt, put_wa, u1, u2, hn8])
              refine e_bipush 79 dX12_keyAt_77 (by decide) rfl ?_
              refine e_icmp_ne 82 97 dX12_keyAt_79 (by decide) (by decide) (by decide) rfl (fun _ => ?_) (fun h => absurd h (by decide))
              refine e_ls (ls2 := [(0, _), (1, _), (2, _)]) rfl ?_
              refine sk_9 (kk_10 hT hp hb ?_)
              rw [kx9, if_neg (fun q => by omega)] at h
              exact h
            · skip
              refine e_iinc (lsn := [(3, _), (0, _), (1, _), (2, _)]) 66 dX12_keyAt_63 rfl (by decide) rfl rfl ?_
              refine e_goto 15 dX12_keyAt_66 (by decide) ?_
              refine e_ldcS 17 (i := 20) (by decide) rfl rfl dX12_keyAt_15 rfl ?_
              refine e_iload_n (i := 2) 18 dX12_keyAt_17 rfl rfl rfl ?_
              refine e_iload_n (i := 3) 19 dX12_keyAt_18 rfl rfl rfl ?_
              refine e_iadd 20 dX12_keyAt_19 rfl ?_
              refine e_callF (av := [jI _]) 23 (i := 20) (by decide) mt_yJ_charAt mv_yJ_charAt wd_1410 (by decide) dX12_keyAt_20 rfl rfl rfl (Nat.le_of_ble_eq_true rfl) (jroom (by decide)) rfl (c_charAt (i := 20) (k := 52) (z := 107) (by decide) (by decide) (by decide +kernel) ?_)
              dsimp only [jpush]
              (try simp (disch := omega) only [put_r6, put_w6, put_r7, put_w7, put_r9, put_w9, put_r10, put_w10, put_r11, put_w11, put_r12, put_w12, put_r13, put_w13, put_r14, put_w14, put_r15, put_w15, put_ra, put_r8, put_r0, put_rt, put_wa, u1, u2, hn8])
              refine e_bipush 25 dX12_keyAt_23 (by decide) rfl ?_
              refine e_icmp_eq 28 69 dX12_keyAt_25 (by decide) (by decide) (by decide) rfl (fun h => absurd h (by decide)) (fun _ => ?_)
              refine e_aload_n (i := 0) 29 dX12_keyAt_28 rfl rfl rfl ?_
              refine e_geti (j := 6) 32 fl_12_97 dX12_keyAt_29 at_928 (by decide) rfl rfl (fun r29 => ?_)
              simp (disch := omega) only [put_r6, put_w6, put_r7, put_w7, put_r9, put_w9, put_r10, put_w10, put_r11, put_w11, put_r12, put_w12, put_r13, put_w13, put_r14, put_w14, put_r15, put_w15, put_ra, put_r8, put_r0, put_rt, put_wa, u1, u2, hn8] at r29 ⊢
              refine e_iload_n (i := 3) 33 dX12_keyAt_32 rfl rfl rfl ?_
              refine e_iadd 34 dX12_keyAt_33 rfl ?_
              refine e_aload_n (i := 0) 35 dX12_keyAt_34 rfl rfl rfl ?_
              refine e_geti (j := 7) 38 fl_12_100 dX12_keyAt_35 at_928 (by decide) rfl rfl (fun r35 => ?_)
              simp (disch := omega) only [put_r6, put_w6, put_r7, put_w7, put_r9, put_w9, put_r10, put_w10, put_r11, put_w11, put_r12, put_w12, put_r13, put_w13, put_r14, put_w14, put_r15, put_w15, put_ra, put_r8, put_r0, put_rt, put_wa, u1, u2, hn8] at r35 ⊢
              refine e_icmp_ge 41 69 dX12_keyAt_38 (by omega) (by omega) (by decide) rfl (fun b38 => ?_) (fun b38 => ?_)
              · skip
                refine e_ldcS 71 (i := 20) (by decide) rfl rfl dX12_keyAt_69 rfl ?_
                refine e_iload_n (i := 2) 72 dX12_keyAt_71 rfl rfl rfl ?_
                refine e_iload_n (i := 3) 73 dX12_keyAt_72 rfl rfl rfl ?_
                refine e_iadd 74 dX12_keyAt_73 rfl ?_
                refine e_callF (av := [jI _]) 77 (i := 20) (by decide) mt_yJ_charAt mv_yJ_charAt wd_1410 (by decide) dX12_keyAt_74 rfl rfl rfl (Nat.le_of_ble_eq_true rfl) (jroom (by decide)) rfl (c_charAt (i := 20) (k := 52) (z := 107) (by decide) (by decide) (by decide +kernel) ?_)
                dsimp only [jpush]
                (try simp (disch := omega) only [put_r6, put_w6, put_r7, put_w7, put_r9, put_w9, put_r10, put_w10, put_r11, put_w11, put_r12, put_w12, put_r13, put_w13, put_r14, put_w14, put_r15, put_w15, put_ra, put_r8, put_r0, put_rt, put_wa, u1, u2, hn8])
                refine e_bipush 79 dX12_keyAt_77 (by decide) rfl ?_
                refine e_icmp_ne 82 97 dX12_keyAt_79 (by decide) (by decide) (by decide) rfl (fun _ => ?_) (fun h => absurd h (by decide))
                refine e_ls (ls2 := [(0, _), (1, _), (2, _)]) rfl ?_
                refine sk_9 (kk_10 hT hp hb ?_)
                rw [kx9, if_neg (fun q => by omega)] at h
                exact h
              · skip
                refine e_aload_n (i := 0) 42 dX12_keyAt_41 rfl rfl rfl ?_
                refine e_getr (j := 3) 45 fl_12_21 dX12_keyAt_42 at_928 rfl rfl tp_928_3 rfl ?_
                refine e_aload_n (i := 0) 46 dX12_keyAt_45 rfl rfl rfl ?_
                refine e_geti (j := 6) 49 fl_12_97 dX12_keyAt_46 at_928 (by decide) rfl rfl (fun r46 => ?_)
                simp (disch := omega) only [put_r6, put_w6, put_r7, put_w7, put_r9, put_w9, put_r10, put_w10, put_r11, put_w11, put_r12, put_w12, put_r13, put_w13, put_r14, put_w14, put_r15, put_w15, put_ra, put_r8, put_r0, put_rt, put_wa, u1, u2, hn8] at r46 ⊢
                refine e_iload_n (i := 3) 50 dX12_keyAt_49 rfl rfl rfl ?_
                refine e_iadd 51 dX12_keyAt_50 rfl ?_
                refine e_iald 52 dX12_keyAt_51 ar_931 (by omega) (by omega) rfl (fun r51 => ?_)
                simp (disch := omega) only [put_r6, put_w6, put_r7, put_w7, put_r9, put_w9, put_r10, put_w10, put_r11, put_w11, put_r12, put_w12, put_r13, put_w13, put_r14, put_w14, put_r15, put_w15, put_ra, put_r8, put_r0, put_rt, put_wa, u1, u2, hn8, Int.reduceAdd, Int.add_zero] at r51 ⊢
                refine e_ldcS 54 (i := 20) (by decide) rfl rfl dX12_keyAt_52 rfl ?_
                refine e_iload_n (i := 2) 55 dX12_keyAt_54 rfl rfl rfl ?_
                refine e_iload_n (i := 3) 56 dX12_keyAt_55 rfl rfl rfl ?_
                refine e_iadd 57 dX12_keyAt_56 rfl ?_
                refine e_callF (av := [jI _]) 60 (i := 20) (by decide) mt_yJ_charAt mv_yJ_charAt wd_1410 (by decide) dX12_keyAt_57 rfl rfl rfl (Nat.le_of_ble_eq_true rfl) (jroom (by decide)) rfl (c_charAt (i := 20) (k := 52) (z := 107) (by decide) (by decide) (by decide +kernel) ?_)
                dsimp only [jpush]
                (try simp (disch := omega) only [put_r6, put_w6, put_r7, put_w7, put_r9, put_w9, put_r10, put_w10, put_r11, put_w11, put_r12, put_w12, put_r13, put_w13, put_r14, put_w14, put_r15, put_w15, put_ra, put_r8, put_r0, put_rt, put_wa, u1, u2, hn8])
                refine e_icmp_ne 63 69 dX12_keyAt_60 (by omega) (by decide) (by decide) rfl (fun b60 => ?_) (fun b60 => ?_)
                · skip
                  refine e_ldcS 71 (i := 20) (by decide) rfl rfl dX12_keyAt_69 rfl ?_
                  refine e_iload_n (i := 2) 72 dX12_keyAt_71 rfl rfl rfl ?_
                  refine e_iload_n (i := 3) 73 dX12_keyAt_72 rfl rfl rfl ?_
                  refine e_iadd 74 dX12_keyAt_73 rfl ?_
                  refine e_callF (av := [jI _]) 77 (i := 20) (by decide) mt_yJ_charAt mv_yJ_charAt wd_1410 (by decide) dX12_keyAt_74 rfl rfl rfl (Nat.le_of_ble_eq_true rfl) (jroom (by decide)) rfl (c_charAt (i := 20) (k := 52) (z := 107) (by decide) (by decide) (by decide +kernel) ?_)
                  dsimp only [jpush]
                  (try simp (disch := omega) only [put_r6, put_w6, put_r7, put_w7, put_r9, put_w9, put_r10, put_w10, put_r11, put_w11, put_r12, put_w12, put_r13, put_w13, put_r14, put_w14, put_r15, put_w15, put_ra, put_r8, put_r0, put_rt, put_wa, u1, u2, hn8])
                  refine e_bipush 79 dX12_keyAt_77 (by decide) rfl ?_
                  refine e_icmp_ne 82 97 dX12_keyAt_79 (by decide) (by decide) (by decide) rfl (fun _ => ?_) (fun h => absurd h (by decide))
                  refine e_ls (ls2 := [(0, _), (1, _), (2, _)]) rfl ?_
                  refine sk_9 (kk_10 hT hp hb ?_)
                  rw [kx9, if_neg (fun q => by omega)] at h
                  exact h
                · skip
                  refine e_iinc (lsn := [(3, _), (0, _), (1, _), (2, _)]) 66 dX12_keyAt_63 rfl (by decide) rfl rfl ?_
                  refine e_goto 15 dX12_keyAt_66 (by decide) ?_
                  refine e_ldcS 17 (i := 20) (by decide) rfl rfl dX12_keyAt_15 rfl ?_
                  refine e_iload_n (i := 2) 18 dX12_keyAt_17 rfl rfl rfl ?_
                  refine e_iload_n (i := 3) 19 dX12_keyAt_18 rfl rfl rfl ?_
                  refine e_iadd 20 dX12_keyAt_19 rfl ?_
                  refine e_callF (av := [jI _]) 23 (i := 20) (by decide) mt_yJ_charAt mv_yJ_charAt wd_1410 (by decide) dX12_keyAt_20 rfl rfl rfl (Nat.le_of_ble_eq_true rfl) (jroom (by decide)) rfl (c_charAt (i := 20) (k := 53) (z := 32) (by decide) (by decide) (by decide +kernel) ?_)
                  dsimp only [jpush]
                  (try simp (disch := omega) only [put_r6, put_w6, put_r7, put_w7, put_r9, put_w9, put_r10, put_w10, put_r11, put_w11, put_r12, put_w12, put_r13, put_w13, put_r14, put_w14, put_r15, put_w15, put_ra, put_r8, put_r0, put_rt, put_wa, u1, u2, hn8])
                  refine e_bipush 25 dX12_keyAt_23 (by decide) rfl ?_
                  refine e_icmp_eq 28 69 dX12_keyAt_25 (by decide) (by decide) (by decide) rfl (fun _ => ?_) (fun h => absurd h (by decide))
                  refine e_ldcS 71 (i := 20) (by decide) rfl rfl dX12_keyAt_69 rfl ?_
                  refine e_iload_n (i := 2) 72 dX12_keyAt_71 rfl rfl rfl ?_
                  refine e_iload_n (i := 3) 73 dX12_keyAt_72 rfl rfl rfl ?_
                  refine e_iadd 74 dX12_keyAt_73 rfl ?_
                  refine e_callF (av := [jI _]) 77 (i := 20) (by decide) mt_yJ_charAt mv_yJ_charAt wd_1410 (by decide) dX12_keyAt_74 rfl rfl rfl (Nat.le_of_ble_eq_true rfl) (jroom (by decide)) rfl (c_charAt (i := 20) (k := 53) (z := 32) (by decide) (by decide) (by decide +kernel) ?_)
                  dsimp only [jpush]
                  (try simp (disch := omega) only [put_r6, put_w6, put_r7, put_w7, put_r9, put_w9, put_r10, put_w10, put_r11, put_w11, put_r12, put_w12, put_r13, put_w13, put_r14, put_w14, put_r15, put_w15, put_ra, put_r8, put_r0, put_rt, put_wa, u1, u2, hn8])
                  refine e_bipush 79 dX12_keyAt_77 (by decide) rfl ?_
                  refine e_icmp_ne 82 97 dX12_keyAt_79 (by decide) (by decide) (by decide) rfl (fun h => absurd h (by decide)) (fun _ => ?_)
                  refine e_aload_n (i := 0) 83 dX12_keyAt_82 rfl rfl rfl ?_
                  refine e_geti (j := 6) 86 fl_12_97 dX12_keyAt_83 at_928 (by decide) rfl rfl (fun r83 => ?_)
                  simp (disch := omega) only [put_r6, put_w6, put_r7, put_w7, put_r9, put_w9, put_r10, put_w10, put_r11, put_w11, put_r12, put_w12, put_r13, put_w13, put_r14, put_w14, put_r15, put_w15, put_ra, put_r8, put_r0, put_rt, put_wa, u1, u2, hn8] at r83 ⊢
                  refine e_iload_n (i := 3) 87 dX12_keyAt_86 rfl rfl rfl ?_
                  refine e_iadd 88 dX12_keyAt_87 rfl ?_
                  refine e_aload_n (i := 0) 89 dX12_keyAt_88 rfl rfl rfl ?_
                  refine e_geti (j := 7) 92 fl_12_100 dX12_keyAt_89 at_928 (by decide) rfl rfl (fun r89 => ?_)
                  simp (disch := omega) only [put_r6, put_w6, put_r7, put_w7, put_r9, put_w9, put_r10, put_w10, put_r11, put_w11, put_r12, put_w12, put_r13, put_w13, put_r14, put_w14, put_r15, put_w15, put_ra, put_r8, put_r0, put_rt, put_wa, u1, u2, hn8] at r89 ⊢
                  refine e_icmp_ne 95 97 dX12_keyAt_92 (by omega) (by omega) (by decide) rfl (fun b92 => ?_) (fun b92 => ?_)
                  · skip
                    refine e_ls (ls2 := [(0, _), (1, _), (2, _)]) rfl ?_
                    refine sk_9 (kk_10 hT hp hb ?_)
                    rw [kx9, if_neg (fun q => by omega)] at h
                    exact h
                  · skip
                    refine e_iload_n (i := 1) 96 dX12_keyAt_95 rfl rfl rfl ?_
                    refine e_iret dX12_keyAt_96 ?_
                    rw [kx9, if_pos (by omega)] at h
                    exact h

theorem sk_8 {X : jX} {Y : jM} {Q : Int → jM → Prop} (h : jE X yX12_keyAt cX12_keyAt 4 (some .int) 5 Q Y 4 [(0, jR 928), (1, jI 9), (2, jI 49)] []) : jE X yX12_keyAt cX12_keyAt 4 (some .int) 5 Q Y 97 [(0, jR 928), (1, jI 8), (2, jI 44)] [] := by
  refine e_ldcS 99 (i := 20) (by decide) rfl rfl dX12_keyAt_97 rfl ?_
  refine e_iload_n (i := 2) 100 dX12_keyAt_99 rfl rfl rfl ?_
  refine e_callF (av := [jI _]) 103 (i := 20) (by decide) mt_yJ_charAt mv_yJ_charAt wd_1410 (by decide) dX12_keyAt_100 rfl rfl rfl (Nat.le_of_ble_eq_true rfl) (jroom (by decide)) rfl (c_charAt (i := 20) (k := 44) (z := 104) (by decide) (by decide) (by decide +kernel) ?_)
  dsimp only [jpush]
  refine e_bipush 105 dX12_keyAt_103 (by decide) rfl ?_
  refine e_icmp_eq 108 114 dX12_keyAt_105 (by decide) (by decide) (by decide) rfl (fun h => absurd h (by decide)) (fun _ => ?_)
  refine e_iinc (lsn := [(2, _), (0, _), (1, _)]) 111 dX12_keyAt_108 rfl (by decide) rfl rfl ?_
  refine e_goto 97 dX12_keyAt_111 (by decide) ?_
  refine e_ldcS 99 (i := 20) (by decide) rfl rfl dX12_keyAt_97 rfl ?_
  refine e_iload_n (i := 2) 100 dX12_keyAt_99 rfl rfl rfl ?_
  refine e_callF (av := [jI _]) 103 (i := 20) (by decide) mt_yJ_charAt mv_yJ_charAt wd_1410 (by decide) dX12_keyAt_100 rfl rfl rfl (Nat.le_of_ble_eq_true rfl) (jroom (by decide)) rfl (c_charAt (i := 20) (k := 45) (z := 111) (by decide) (by decide) (by decide +kernel) ?_)
  dsimp only [jpush]
  refine e_bipush 105 dX12_keyAt_103 (by decide) rfl ?_
  refine e_icmp_eq 108 114 dX12_keyAt_105 (by decide) (by decide) (by decide) rfl (fun h => absurd h (by decide)) (fun _ => ?_)
  refine e_iinc (lsn := [(2, _), (0, _), (1, _)]) 111 dX12_keyAt_108 rfl (by decide) rfl rfl ?_
  refine e_goto 97 dX12_keyAt_111 (by decide) ?_
  refine e_ldcS 99 (i := 20) (by decide) rfl rfl dX12_keyAt_97 rfl ?_
  refine e_iload_n (i := 2) 100 dX12_keyAt_99 rfl rfl rfl ?_
  refine e_callF (av := [jI _]) 103 (i := 20) (by decide) mt_yJ_charAt mv_yJ_charAt wd_1410 (by decide) dX12_keyAt_100 rfl rfl rfl (Nat.le_of_ble_eq_true rfl) (jroom (by decide)) rfl (c_charAt (i := 20) (k := 46) (z := 108) (by decide) (by decide) (by decide +kernel) ?_)
  dsimp only [jpush]
  refine e_bipush 105 dX12_keyAt_103 (by decide) rfl ?_
  refine e_icmp_eq 108 114 dX12_keyAt_105 (by decide) (by decide) (by decide) rfl (fun h => absurd h (by decide)) (fun _ => ?_)
  refine e_iinc (lsn := [(2, _), (0, _), (1, _)]) 111 dX12_keyAt_108 rfl (by decide) rfl rfl ?_
  refine e_goto 97 dX12_keyAt_111 (by decide) ?_
  refine e_ldcS 99 (i := 20) (by decide) rfl rfl dX12_keyAt_97 rfl ?_
  refine e_iload_n (i := 2) 100 dX12_keyAt_99 rfl rfl rfl ?_
  refine e_callF (av := [jI _]) 103 (i := 20) (by decide) mt_yJ_charAt mv_yJ_charAt wd_1410 (by decide) dX12_keyAt_100 rfl rfl rfl (Nat.le_of_ble_eq_true rfl) (jroom (by decide)) rfl (c_charAt (i := 20) (k := 47) (z := 100) (by decide) (by decide) (by decide +kernel) ?_)
  dsimp only [jpush]
  refine e_bipush 105 dX12_keyAt_103 (by decide) rfl ?_
  refine e_icmp_eq 108 114 dX12_keyAt_105 (by decide) (by decide) (by decide) rfl (fun h => absurd h (by decide)) (fun _ => ?_)
  refine e_iinc (lsn := [(2, _), (0, _), (1, _)]) 111 dX12_keyAt_108 rfl (by decide) rfl rfl ?_
  refine e_goto 97 dX12_keyAt_111 (by decide) ?_
  refine e_ldcS 99 (i := 20) (by decide) rfl rfl dX12_keyAt_97 rfl ?_
  refine e_iload_n (i := 2) 100 dX12_keyAt_99 rfl rfl rfl ?_
  refine e_callF (av := [jI _]) 103 (i := 20) (by decide) mt_yJ_charAt mv_yJ_charAt wd_1410 (by decide) dX12_keyAt_100 rfl rfl rfl (Nat.le_of_ble_eq_true rfl) (jroom (by decide)) rfl (c_charAt (i := 20) (k := 48) (z := 32) (by decide) (by decide) (by decide +kernel) ?_)
  dsimp only [jpush]
  refine e_bipush 105 dX12_keyAt_103 (by decide) rfl ?_
  refine e_icmp_eq 108 114 dX12_keyAt_105 (by decide) (by decide) (by decide) rfl (fun _ => ?_) (fun h => absurd h (by decide))
  refine e_iinc (lsn := [(2, _), (0, _), (1, _)]) 117 dX12_keyAt_114 rfl (by decide) rfl rfl ?_
  refine e_iinc (lsn := [(1, _), (2, _), (0, _)]) 120 dX12_keyAt_117 rfl (by decide) rfl rfl ?_
  refine e_goto 4 dX12_keyAt_120 (by decide) ?_
  refine e_ls (ls2 := [(0, _), (1, _), (2, _)]) rfl ?_
  exact h

theorem kk_8 {X : jX} {M : jM} {n : Int} {Q : Int → jM → Prop} (hT : RT M n) {s : PS} (hp : 0 ≤ s.1) (hb : s.1 ≤ s.2.1 ∧ s.2.1 ≤ n) (h : Q (kx8 (M 931) s.1 s.2.1) (put M s)) : jE X yX12_keyAt cX12_keyAt 4 (some .int) 5 Q (put M s) 4 [(0, jR 928), (1, jI 8), (2, jI 44)] [] := by
  have hn8 := hT.1
  have hn := hT.2.1
  refine e_iload_n (i := 2) 5 dX12_keyAt_4 rfl rfl rfl ?_
  refine e_ldcS 7 (i := 20) (by decide) rfl rfl dX12_keyAt_5 rfl ?_
  refine e_callF (av := []) 10 (i := 20) (by decide) mt_yJ_len mv_yJ_len wd_1409 (by decide) dX12_keyAt_7 rfl rfl rfl (Nat.le_of_ble_eq_true rfl) (jroom (by decide)) rfl (c_strlen (i := 20) (z := 99) (by decide) (by decide) ?_)
  dsimp only [jpush]
  (try simp (disch := omega) only [put_r6, put_w6, put_r7, put_w7, put_r9, put_w9, put_r10, put_w10, put_r11, put_w11, put_r12, put_w12, put_r13, put_w13, put_r14, put_w14, put_r15, put_w15, put_ra, put_r8, put_r0, put_rt, put_wa, u1, u2, hn8])
  refine e_icmp_ge 13 123 dX12_keyAt_10 (by decide) (by decide) (by decide) rfl (fun h => absurd h (by decide)) (fun _ => ?_)
  refine e_iconst 14 dX12_keyAt_13 rfl ?_
  refine e_istore_n (i := 3) (lsn := [(3, _), (0, _), (1, _), (2, _)]) 15 dX12_keyAt_14 rfl (by decide) rfl rfl ?_
  refine e_ldcS 17 (i := 20) (by decide) rfl rfl dX12_keyAt_15 rfl ?_
  refine e_iload_n (i := 2) 18 dX12_keyAt_17 rfl rfl rfl ?_
  refine e_iload_n (i := 3) 19 dX12_keyAt_18 rfl rfl rfl ?_
  refine e_iadd 20 dX12_keyAt_19 rfl ?_
  refine e_callF (av := [jI _]) 23 (i := 20) (by decide) mt_yJ_charAt mv_yJ_charAt wd_1410 (by decide) dX12_keyAt_20 rfl rfl rfl (Nat.le_of_ble_eq_true rfl) (jroom (by decide)) rfl (c_charAt (i := 20) (k := 44) (z := 104) (by decide) (by decide) (by decide +kernel) ?_)
  dsimp only [jpush]
  (try simp (disch := omega) only [put_r6, put_w6, put_r7, put_w7, put_r9, put_w9, put_r10, put_w10, put_r11, put_w11, put_r12, put_w12, put_r13, put_w13, put_r14, put_w14, put_r15, put_w15, put_ra, put_r8, put_r0, put_rt, put_wa, u1, u2, hn8])
  refine e_bipush 25 dX12_keyAt_23 (by decide) rfl ?_
  refine e_icmp_eq 28 69 dX12_keyAt_25 (by decide) (by decide) (by decide) rfl (fun h => absurd h (by decide)) (fun _ => ?_)
  refine e_aload_n (i := 0) 29 dX12_keyAt_28 rfl rfl rfl ?_
  refine e_geti (j := 6) 32 fl_12_97 dX12_keyAt_29 at_928 (by decide) rfl rfl (fun r29 => ?_)
  simp (disch := omega) only [put_r6, put_w6, put_r7, put_w7, put_r9, put_w9, put_r10, put_w10, put_r11, put_w11, put_r12, put_w12, put_r13, put_w13, put_r14, put_w14, put_r15, put_w15, put_ra, put_r8, put_r0, put_rt, put_wa, u1, u2, hn8] at r29 ⊢
  refine e_iload_n (i := 3) 33 dX12_keyAt_32 rfl rfl rfl ?_
  refine e_iadd 34 dX12_keyAt_33 rfl ?_
  refine e_aload_n (i := 0) 35 dX12_keyAt_34 rfl rfl rfl ?_
  refine e_geti (j := 7) 38 fl_12_100 dX12_keyAt_35 at_928 (by decide) rfl rfl (fun r35 => ?_)
  simp (disch := omega) only [put_r6, put_w6, put_r7, put_w7, put_r9, put_w9, put_r10, put_w10, put_r11, put_w11, put_r12, put_w12, put_r13, put_w13, put_r14, put_w14, put_r15, put_w15, put_ra, put_r8, put_r0, put_rt, put_wa, u1, u2, hn8] at r35 ⊢
  refine e_icmp_ge 41 69 dX12_keyAt_38 (by omega) (by omega) (by decide) rfl (fun b38 => ?_) (fun b38 => ?_)
  · skip
    refine e_ldcS 71 (i := 20) (by decide) rfl rfl dX12_keyAt_69 rfl ?_
    refine e_iload_n (i := 2) 72 dX12_keyAt_71 rfl rfl rfl ?_
    refine e_iload_n (i := 3) 73 dX12_keyAt_72 rfl rfl rfl ?_
    refine e_iadd 74 dX12_keyAt_73 rfl ?_
    refine e_callF (av := [jI _]) 77 (i := 20) (by decide) mt_yJ_charAt mv_yJ_charAt wd_1410 (by decide) dX12_keyAt_74 rfl rfl rfl (Nat.le_of_ble_eq_true rfl) (jroom (by decide)) rfl (c_charAt (i := 20) (k := 44) (z := 104) (by decide) (by decide) (by decide +kernel) ?_)
    dsimp only [jpush]
    (try simp (disch := omega) only [put_r6, put_w6, put_r7, put_w7, put_r9, put_w9, put_r10, put_w10, put_r11, put_w11, put_r12, put_w12, put_r13, put_w13, put_r14, put_w14, put_r15, put_w15, put_ra, put_r8, put_r0, put_rt, put_wa, u1, u2, hn8])
    refine e_bipush 79 dX12_keyAt_77 (by decide) rfl ?_
    refine e_icmp_ne 82 97 dX12_keyAt_79 (by decide) (by decide) (by decide) rfl (fun _ => ?_) (fun h => absurd h (by decide))
    refine e_ls (ls2 := [(0, _), (1, _), (2, _)]) rfl ?_
    refine sk_8 (kk_9 hT hp hb ?_)
    rw [kx8, if_neg (fun q => by omega)] at h
    exact h
  · skip
    refine e_aload_n (i := 0) 42 dX12_keyAt_41 rfl rfl rfl ?_
    refine e_getr (j := 3) 45 fl_12_21 dX12_keyAt_42 at_928 rfl rfl tp_928_3 rfl ?_
    refine e_aload_n (i := 0) 46 dX12_keyAt_45 rfl rfl rfl ?_
    refine e_geti (j := 6) 49 fl_12_97 dX12_keyAt_46 at_928 (by decide) rfl rfl (fun r46 => ?_)
    simp (disch := omega) only [put_r6, put_w6, put_r7, put_w7, put_r9, put_w9, put_r10, put_w10, put_r11, put_w11, put_r12, put_w12, put_r13, put_w13, put_r14, put_w14, put_r15, put_w15, put_ra, put_r8, put_r0, put_rt, put_wa, u1, u2, hn8] at r46 ⊢
    refine e_iload_n (i := 3) 50 dX12_keyAt_49 rfl rfl rfl ?_
    refine e_iadd 51 dX12_keyAt_50 rfl ?_
    refine e_iald 52 dX12_keyAt_51 ar_931 (by omega) (by omega) rfl (fun r51 => ?_)
    simp (disch := omega) only [put_r6, put_w6, put_r7, put_w7, put_r9, put_w9, put_r10, put_w10, put_r11, put_w11, put_r12, put_w12, put_r13, put_w13, put_r14, put_w14, put_r15, put_w15, put_ra, put_r8, put_r0, put_rt, put_wa, u1, u2, hn8, Int.reduceAdd, Int.add_zero] at r51 ⊢
    refine e_ldcS 54 (i := 20) (by decide) rfl rfl dX12_keyAt_52 rfl ?_
    refine e_iload_n (i := 2) 55 dX12_keyAt_54 rfl rfl rfl ?_
    refine e_iload_n (i := 3) 56 dX12_keyAt_55 rfl rfl rfl ?_
    refine e_iadd 57 dX12_keyAt_56 rfl ?_
    refine e_callF (av := [jI _]) 60 (i := 20) (by decide) mt_yJ_charAt mv_yJ_charAt wd_1410 (by decide) dX12_keyAt_57 rfl rfl rfl (Nat.le_of_ble_eq_true rfl) (jroom (by decide)) rfl (c_charAt (i := 20) (k := 44) (z := 104) (by decide) (by decide) (by decide +kernel) ?_)
    dsimp only [jpush]
    (try simp (disch := omega) only [put_r6, put_w6, put_r7, put_w7, put_r9, put_w9, put_r10, put_w10, put_r11, put_w11, put_r12, put_w12, put_r13, put_w13, put_r14, put_w14, put_r15, put_w15, put_ra, put_r8, put_r0, put_rt, put_wa, u1, u2, hn8])
    refine e_icmp_ne 63 69 dX12_keyAt_60 (by omega) (by decide) (by decide) rfl (fun b60 => ?_) (fun b60 => ?_)
    · skip
      refine e_ldcS 71 (i := 20) (by decide) rfl rfl dX12_keyAt_69 rfl ?_
      refine e_iload_n (i := 2) 72 dX12_keyAt_71 rfl rfl rfl ?_
      refine e_iload_n (i := 3) 73 dX12_keyAt_72 rfl rfl rfl ?_
      refine e_iadd 74 dX12_keyAt_73 rfl ?_
      refine e_callF (av := [jI _]) 77 (i := 20) (by decide) mt_yJ_charAt mv_yJ_charAt wd_1410 (by decide) dX12_keyAt_74 rfl rfl rfl (Nat.le_of_ble_eq_true rfl) (jroom (by decide)) rfl (c_charAt (i := 20) (k := 44) (z := 104) (by decide) (by decide) (by decide +kernel) ?_)
      dsimp only [jpush]
      (try simp (disch := omega) only [put_r6, put_w6, put_r7, put_w7, put_r9, put_w9, put_r10, put_w10, put_r11, put_w11, put_r12, put_w12, put_r13, put_w13, put_r14, put_w14, put_r15, put_w15, put_ra, put_r8, put_r0, put_rt, put_wa, u1, u2, hn8])
      refine e_bipush 79 dX12_keyAt_77 (by decide) rfl ?_
      refine e_icmp_ne 82 97 dX12_keyAt_79 (by decide) (by decide) (by decide) rfl (fun _ => ?_) (fun h => absurd h (by decide))
      refine e_ls (ls2 := [(0, _), (1, _), (2, _)]) rfl ?_
      refine sk_8 (kk_9 hT hp hb ?_)
      rw [kx8, if_neg (fun q => by omega)] at h
      exact h
    · skip
      refine e_iinc (lsn := [(3, _), (0, _), (1, _), (2, _)]) 66 dX12_keyAt_63 rfl (by decide) rfl rfl ?_
      refine e_goto 15 dX12_keyAt_66 (by decide) ?_
      refine e_ldcS 17 (i := 20) (by decide) rfl rfl dX12_keyAt_15 rfl ?_
      refine e_iload_n (i := 2) 18 dX12_keyAt_17 rfl rfl rfl ?_
      refine e_iload_n (i := 3) 19 dX12_keyAt_18 rfl rfl rfl ?_
      refine e_iadd 20 dX12_keyAt_19 rfl ?_
      refine e_callF (av := [jI _]) 23 (i := 20) (by decide) mt_yJ_charAt mv_yJ_charAt wd_1410 (by decide) dX12_keyAt_20 rfl rfl rfl (Nat.le_of_ble_eq_true rfl) (jroom (by decide)) rfl (c_charAt (i := 20) (k := 45) (z := 111) (by decide) (by decide) (by decide +kernel) ?_)
      dsimp only [jpush]
      (try simp (disch := omega) only [put_r6, put_w6, put_r7, put_w7, put_r9, put_w9, put_r10, put_w10, put_r11, put_w11, put_r12, put_w12, put_r13, put_w13, put_r14, put_w14, put_r15, put_w15, put_ra, put_r8, put_r0, put_rt, put_wa, u1, u2, hn8])
      refine e_bipush 25 dX12_keyAt_23 (by decide) rfl ?_
      refine e_icmp_eq 28 69 dX12_keyAt_25 (by decide) (by decide) (by decide) rfl (fun h => absurd h (by decide)) (fun _ => ?_)
      refine e_aload_n (i := 0) 29 dX12_keyAt_28 rfl rfl rfl ?_
      refine e_geti (j := 6) 32 fl_12_97 dX12_keyAt_29 at_928 (by decide) rfl rfl (fun r29 => ?_)
      simp (disch := omega) only [put_r6, put_w6, put_r7, put_w7, put_r9, put_w9, put_r10, put_w10, put_r11, put_w11, put_r12, put_w12, put_r13, put_w13, put_r14, put_w14, put_r15, put_w15, put_ra, put_r8, put_r0, put_rt, put_wa, u1, u2, hn8] at r29 ⊢
      refine e_iload_n (i := 3) 33 dX12_keyAt_32 rfl rfl rfl ?_
      refine e_iadd 34 dX12_keyAt_33 rfl ?_
      refine e_aload_n (i := 0) 35 dX12_keyAt_34 rfl rfl rfl ?_
      refine e_geti (j := 7) 38 fl_12_100 dX12_keyAt_35 at_928 (by decide) rfl rfl (fun r35 => ?_)
      simp (disch := omega) only [put_r6, put_w6, put_r7, put_w7, put_r9, put_w9, put_r10, put_w10, put_r11, put_w11, put_r12, put_w12, put_r13, put_w13, put_r14, put_w14, put_r15, put_w15, put_ra, put_r8, put_r0, put_rt, put_wa, u1, u2, hn8] at r35 ⊢
      refine e_icmp_ge 41 69 dX12_keyAt_38 (by omega) (by omega) (by decide) rfl (fun b38 => ?_) (fun b38 => ?_)
      · skip
        refine e_ldcS 71 (i := 20) (by decide) rfl rfl dX12_keyAt_69 rfl ?_
        refine e_iload_n (i := 2) 72 dX12_keyAt_71 rfl rfl rfl ?_
        refine e_iload_n (i := 3) 73 dX12_keyAt_72 rfl rfl rfl ?_
        refine e_iadd 74 dX12_keyAt_73 rfl ?_
        refine e_callF (av := [jI _]) 77 (i := 20) (by decide) mt_yJ_charAt mv_yJ_charAt wd_1410 (by decide) dX12_keyAt_74 rfl rfl rfl (Nat.le_of_ble_eq_true rfl) (jroom (by decide)) rfl (c_charAt (i := 20) (k := 45) (z := 111) (by decide) (by decide) (by decide +kernel) ?_)
        dsimp only [jpush]
        (try simp (disch := omega) only [put_r6, put_w6, put_r7, put_w7, put_r9, put_w9, put_r10, put_w10, put_r11, put_w11, put_r12, put_w12, put_r13, put_w13, put_r14, put_w14, put_r15, put_w15, put_ra, put_r8, put_r0, put_rt, put_wa, u1, u2, hn8])
        refine e_bipush 79 dX12_keyAt_77 (by decide) rfl ?_
        refine e_icmp_ne 82 97 dX12_keyAt_79 (by decide) (by decide) (by decide) rfl (fun _ => ?_) (fun h => absurd h (by decide))
        refine e_ls (ls2 := [(0, _), (1, _), (2, _)]) rfl ?_
        refine sk_8 (kk_9 hT hp hb ?_)
        rw [kx8, if_neg (fun q => by omega)] at h
        exact h
      · skip
        refine e_aload_n (i := 0) 42 dX12_keyAt_41 rfl rfl rfl ?_
        refine e_getr (j := 3) 45 fl_12_21 dX12_keyAt_42 at_928 rfl rfl tp_928_3 rfl ?_
        refine e_aload_n (i := 0) 46 dX12_keyAt_45 rfl rfl rfl ?_
        refine e_geti (j := 6) 49 fl_12_97 dX12_keyAt_46 at_928 (by decide) rfl rfl (fun r46 => ?_)
        simp (disch := omega) only [put_r6, put_w6, put_r7, put_w7, put_r9, put_w9, put_r10, put_w10, put_r11, put_w11, put_r12, put_w12, put_r13, put_w13, put_r14, put_w14, put_r15, put_w15, put_ra, put_r8, put_r0, put_rt, put_wa, u1, u2, hn8] at r46 ⊢
        refine e_iload_n (i := 3) 50 dX12_keyAt_49 rfl rfl rfl ?_
        refine e_iadd 51 dX12_keyAt_50 rfl ?_
        refine e_iald 52 dX12_keyAt_51 ar_931 (by omega) (by omega) rfl (fun r51 => ?_)
        simp (disch := omega) only [put_r6, put_w6, put_r7, put_w7, put_r9, put_w9, put_r10, put_w10, put_r11, put_w11, put_r12, put_w12, put_r13, put_w13, put_r14, put_w14, put_r15, put_w15, put_ra, put_r8, put_r0, put_rt, put_wa, u1, u2, hn8, Int.reduceAdd, Int.add_zero] at r51 ⊢
        refine e_ldcS 54 (i := 20) (by decide) rfl rfl dX12_keyAt_52 rfl ?_
        refine e_iload_n (i := 2) 55 dX12_keyAt_54 rfl rfl rfl ?_
        refine e_iload_n (i := 3) 56 dX12_keyAt_55 rfl rfl rfl ?_
        refine e_iadd 57 dX12_keyAt_56 rfl ?_
        refine e_callF (av := [jI _]) 60 (i := 20) (by decide) mt_yJ_charAt mv_yJ_charAt wd_1410 (by decide) dX12_keyAt_57 rfl rfl rfl (Nat.le_of_ble_eq_true rfl) (jroom (by decide)) rfl (c_charAt (i := 20) (k := 45) (z := 111) (by decide) (by decide) (by decide +kernel) ?_)
        dsimp only [jpush]
        (try simp (disch := omega) only [put_r6, put_w6, put_r7, put_w7, put_r9, put_w9, put_r10, put_w10, put_r11, put_w11, put_r12, put_w12, put_r13, put_w13, put_r14, put_w14, put_r15, put_w15, put_ra, put_r8, put_r0, put_rt, put_wa, u1, u2, hn8])
        refine e_icmp_ne 63 69 dX12_keyAt_60 (by omega) (by decide) (by decide) rfl (fun b60 => ?_) (fun b60 => ?_)
        · skip
          refine e_ldcS 71 (i := 20) (by decide) rfl rfl dX12_keyAt_69 rfl ?_
          refine e_iload_n (i := 2) 72 dX12_keyAt_71 rfl rfl rfl ?_
          refine e_iload_n (i := 3) 73 dX12_keyAt_72 rfl rfl rfl ?_
          refine e_iadd 74 dX12_keyAt_73 rfl ?_
          refine e_callF (av := [jI _]) 77 (i := 20) (by decide) mt_yJ_charAt mv_yJ_charAt wd_1410 (by decide) dX12_keyAt_74 rfl rfl rfl (Nat.le_of_ble_eq_true rfl) (jroom (by decide)) rfl (c_charAt (i := 20) (k := 45) (z := 111) (by decide) (by decide) (by decide +kernel) ?_)
          dsimp only [jpush]
          (try simp (disch := omega) only [put_r6, put_w6, put_r7, put_w7, put_r9, put_w9, put_r10, put_w10, put_r11, put_w11, put_r12, put_w12, put_r13, put_w13, put_r14, put_w14, put_r15, put_w15, put_ra, put_r8, put_r0, put_rt, put_wa, u1, u2, hn8])
          refine e_bipush 79 dX12_keyAt_77 (by decide) rfl ?_
          refine e_icmp_ne 82 97 dX12_keyAt_79 (by decide) (by decide) (by decide) rfl (fun _ => ?_) (fun h => absurd h (by decide))
          refine e_ls (ls2 := [(0, _), (1, _), (2, _)]) rfl ?_
          refine sk_8 (kk_9 hT hp hb ?_)
          rw [kx8, if_neg (fun q => by omega)] at h
          exact h
        · skip
          refine e_iinc (lsn := [(3, _), (0, _), (1, _), (2, _)]) 66 dX12_keyAt_63 rfl (by decide) rfl rfl ?_
          refine e_goto 15 dX12_keyAt_66 (by decide) ?_
          refine e_ldcS 17 (i := 20) (by decide) rfl rfl dX12_keyAt_15 rfl ?_
          refine e_iload_n (i := 2) 18 dX12_keyAt_17 rfl rfl rfl ?_
          refine e_iload_n (i := 3) 19 dX12_keyAt_18 rfl rfl rfl ?_
          refine e_iadd 20 dX12_keyAt_19 rfl ?_
          refine e_callF (av := [jI _]) 23 (i := 20) (by decide) mt_yJ_charAt mv_yJ_charAt wd_1410 (by decide) dX12_keyAt_20 rfl rfl rfl (Nat.le_of_ble_eq_true rfl) (jroom (by decide)) rfl (c_charAt (i := 20) (k := 46) (z := 108) (by decide) (by decide) (by decide +kernel) ?_)
          dsimp only [jpush]
          (try simp (disch := omega) only [put_r6, put_w6, put_r7, put_w7, put_r9, put_w9, put_r10, put_w10, put_r11, put_w11, put_r12, put_w12, put_r13, put_w13, put_r14, put_w14, put_r15, put_w15, put_ra, put_r8, put_r0, put_rt, put_wa, u1, u2, hn8])
          refine e_bipush 25 dX12_keyAt_23 (by decide) rfl ?_
          refine e_icmp_eq 28 69 dX12_keyAt_25 (by decide) (by decide) (by decide) rfl (fun h => absurd h (by decide)) (fun _ => ?_)
          refine e_aload_n (i := 0) 29 dX12_keyAt_28 rfl rfl rfl ?_
          refine e_geti (j := 6) 32 fl_12_97 dX12_keyAt_29 at_928 (by decide) rfl rfl (fun r29 => ?_)
          simp (disch := omega) only [put_r6, put_w6, put_r7, put_w7, put_r9, put_w9, put_r10, put_w10, put_r11, put_w11, put_r12, put_w12, put_r13, put_w13, put_r14, put_w14, put_r15, put_w15, put_ra, put_r8, put_r0, put_rt, put_wa, u1, u2, hn8] at r29 ⊢
          refine e_iload_n (i := 3) 33 dX12_keyAt_32 rfl rfl rfl ?_
          refine e_iadd 34 dX12_keyAt_33 rfl ?_
          refine e_aload_n (i := 0) 35 dX12_keyAt_34 rfl rfl rfl ?_
          refine e_geti (j := 7) 38 fl_12_100 dX12_keyAt_35 at_928 (by decide) rfl rfl (fun r35 => ?_)
          simp (disch := omega) only [put_r6, put_w6, put_r7, put_w7, put_r9, put_w9, put_r10, put_w10, put_r11, put_w11, put_r12, put_w12, put_r13, put_w13, put_r14, put_w14, put_r15, put_w15, put_ra, put_r8, put_r0, put_rt, put_wa, u1, u2, hn8] at r35 ⊢
          refine e_icmp_ge 41 69 dX12_keyAt_38 (by omega) (by omega) (by decide) rfl (fun b38 => ?_) (fun b38 => ?_)
          · skip
            refine e_ldcS 71 (i := 20) (by decide) rfl rfl dX12_keyAt_69 rfl ?_
            refine e_iload_n (i := 2) 72 dX12_keyAt_71 rfl rfl rfl ?_
            refine e_iload_n (i := 3) 73 dX12_keyAt_72 rfl rfl rfl ?_
            refine e_iadd 74 dX12_keyAt_73 rfl ?_
            refine e_callF (av := [jI _]) 77 (i := 20) (by decide) mt_yJ_charAt mv_yJ_charAt wd_1410 (by decide) dX12_keyAt_74 rfl rfl rfl (Nat.le_of_ble_eq_true rfl) (jroom (by decide)) rfl (c_charAt (i := 20) (k := 46) (z := 108) (by decide) (by decide) (by decide +kernel) ?_)
            dsimp only [jpush]
            (try simp (disch := omega) only [put_r6, put_w6, put_r7, put_w7, put_r9, put_w9, put_r10, put_w10, put_r11, put_w11, put_r12, put_w12, put_r13, put_w13, put_r14, put_w14, put_r15, put_w15, put_ra, put_r8, put_r0, put_rt, put_wa, u1, u2, hn8])
            refine e_bipush 79 dX12_keyAt_77 (by decide) rfl ?_
            refine e_icmp_ne 82 97 dX12_keyAt_79 (by decide) (by decide) (by decide) rfl (fun _ => ?_) (fun h => absurd h (by decide))
            refine e_ls (ls2 := [(0, _), (1, _), (2, _)]) rfl ?_
            refine sk_8 (kk_9 hT hp hb ?_)
            rw [kx8, if_neg (fun q => by omega)] at h
            exact h
          · skip
            refine e_aload_n (i := 0) 42 dX12_keyAt_41 rfl rfl rfl ?_
            refine e_getr (j := 3) 45 fl_12_21 dX12_keyAt_42 at_928 rfl rfl tp_928_3 rfl ?_
            refine e_aload_n (i := 0) 46 dX12_keyAt_45 rfl rfl rfl ?_
            refine e_geti (j := 6) 49 fl_12_97 dX12_keyAt_46 at_928 (by decide) rfl rfl (fun r46 => ?_)
            simp (disch := omega) only [put_r6, put_w6, put_r7, put_w7, put_r9, put_w9, put_r10, put_w10, put_r11, put_w11, put_r12, put_w12, put_r13, put_w13, put_r14, put_w14, put_r15, put_w15, put_ra, put_r8, put_r0, put_rt, put_wa, u1, u2, hn8] at r46 ⊢
            refine e_iload_n (i := 3) 50 dX12_keyAt_49 rfl rfl rfl ?_
            refine e_iadd 51 dX12_keyAt_50 rfl ?_
            refine e_iald 52 dX12_keyAt_51 ar_931 (by omega) (by omega) rfl (fun r51 => ?_)
            simp (disch := omega) only [put_r6, put_w6, put_r7, put_w7, put_r9, put_w9, put_r10, put_w10, put_r11, put_w11, put_r12, put_w12, put_r13, put_w13, put_r14, put_w14, put_r15, put_w15, put_ra, put_r8, put_r0, put_rt, put_wa, u1, u2, hn8, Int.reduceAdd, Int.add_zero] at r51 ⊢
            refine e_ldcS 54 (i := 20) (by decide) rfl rfl dX12_keyAt_52 rfl ?_
            refine e_iload_n (i := 2) 55 dX12_keyAt_54 rfl rfl rfl ?_
            refine e_iload_n (i := 3) 56 dX12_keyAt_55 rfl rfl rfl ?_
            refine e_iadd 57 dX12_keyAt_56 rfl ?_
            refine e_callF (av := [jI _]) 60 (i := 20) (by decide) mt_yJ_charAt mv_yJ_charAt wd_1410 (by decide) dX12_keyAt_57 rfl rfl rfl (Nat.le_of_ble_eq_true rfl) (jroom (by decide)) rfl (c_charAt (i := 20) (k := 46) (z := 108) (by decide) (by decide) (by decide +kernel) ?_)
            dsimp only [jpush]
            (try simp (disch := omega) only [put_r6, put_w6, put_r7, put_w7, put_r9, put_w9, put_r10, put_w10, put_r11, put_w11, put_r12, put_w12, put_r13, put_w13, put_r14, put_w14, put_r15, put_w15, put_ra, put_r8, put_r0, put_rt, put_wa, u1, u2, hn8])
            refine e_icmp_ne 63 69 dX12_keyAt_60 (by omega) (by decide) (by decide) rfl (fun b60 => ?_) (fun b60 => ?_)
            · skip
              refine e_ldcS 71 (i := 20) (by decide) rfl rfl dX12_keyAt_69 rfl ?_
              refine e_iload_n (i := 2) 72 dX12_keyAt_71 rfl rfl rfl ?_
              refine e_iload_n (i := 3) 73 dX12_keyAt_72 rfl rfl rfl ?_
              refine e_iadd 74 dX12_keyAt_73 rfl ?_
              refine e_callF (av := [jI _]) 77 (i := 20) (by decide) mt_yJ_charAt mv_yJ_charAt wd_1410 (by decide) dX12_keyAt_74 rfl rfl rfl (Nat.le_of_ble_eq_true rfl) (jroom (by decide)) rfl (c_charAt (i := 20) (k := 46) (z := 108) (by decide) (by decide) (by decide +kernel) ?_)
              dsimp only [jpush]
              (try simp (disch := omega) only [put_r6, put_w6, put_r7, put_w7, put_r9, put_w9, put_r10, put_w10, put_r11, put_w11, put_r12, put_w12, put_r13, put_w13, put_r14, put_w14, put_r15, put_w15, put_ra, put_r8, put_r0, put_rt, put_wa, u1, u2, hn8])
              refine e_bipush 79 dX12_keyAt_77 (by decide) rfl ?_
              refine e_icmp_ne 82 97 dX12_keyAt_79 (by decide) (by decide) (by decide) rfl (fun _ => ?_) (fun h => absurd h (by decide))
              refine e_ls (ls2 := [(0, _), (1, _), (2, _)]) rfl ?_
              refine sk_8 (kk_9 hT hp hb ?_)
              rw [kx8, if_neg (fun q => by omega)] at h
              exact h
            · skip
              refine e_iinc (lsn := [(3, _), (0, _), (1, _), (2, _)]) 66 dX12_keyAt_63 rfl (by decide) rfl rfl ?_
              refine e_goto 15 dX12_keyAt_66 (by decide) ?_
              refine e_ldcS 17 (i := 20) (by decide) rfl rfl dX12_keyAt_15 rfl ?_
              refine e_iload_n (i := 2) 18 dX12_keyAt_17 rfl rfl rfl ?_
              refine e_iload_n (i := 3) 19 dX12_keyAt_18 rfl rfl rfl ?_
              refine e_iadd 20 dX12_keyAt_19 rfl ?_
              refine e_callF (av := [jI _]) 23 (i := 20) (by decide) mt_yJ_charAt mv_yJ_charAt wd_1410 (by decide) dX12_keyAt_20 rfl rfl rfl (Nat.le_of_ble_eq_true rfl) (jroom (by decide)) rfl (c_charAt (i := 20) (k := 47) (z := 100) (by decide) (by decide) (by decide +kernel) ?_)
              dsimp only [jpush]
              (try simp (disch := omega) only [put_r6, put_w6, put_r7, put_w7, put_r9, put_w9, put_r10, put_w10, put_r11, put_w11, put_r12, put_w12, put_r13, put_w13, put_r14, put_w14, put_r15, put_w15, put_ra, put_r8, put_r0, put_rt, put_wa, u1, u2, hn8])
              refine e_bipush 25 dX12_keyAt_23 (by decide) rfl ?_
              refine e_icmp_eq 28 69 dX12_keyAt_25 (by decide) (by decide) (by decide) rfl (fun h => absurd h (by decide)) (fun _ => ?_)
              refine e_aload_n (i := 0) 29 dX12_keyAt_28 rfl rfl rfl ?_
              refine e_geti (j := 6) 32 fl_12_97 dX12_keyAt_29 at_928 (by decide) rfl rfl (fun r29 => ?_)
              simp (disch := omega) only [put_r6, put_w6, put_r7, put_w7, put_r9, put_w9, put_r10, put_w10, put_r11, put_w11, put_r12, put_w12, put_r13, put_w13, put_r14, put_w14, put_r15, put_w15, put_ra, put_r8, put_r0, put_rt, put_wa, u1, u2, hn8] at r29 ⊢
              refine e_iload_n (i := 3) 33 dX12_keyAt_32 rfl rfl rfl ?_
              refine e_iadd 34 dX12_keyAt_33 rfl ?_
              refine e_aload_n (i := 0) 35 dX12_keyAt_34 rfl rfl rfl ?_
              refine e_geti (j := 7) 38 fl_12_100 dX12_keyAt_35 at_928 (by decide) rfl rfl (fun r35 => ?_)
              simp (disch := omega) only [put_r6, put_w6, put_r7, put_w7, put_r9, put_w9, put_r10, put_w10, put_r11, put_w11, put_r12, put_w12, put_r13, put_w13, put_r14, put_w14, put_r15, put_w15, put_ra, put_r8, put_r0, put_rt, put_wa, u1, u2, hn8] at r35 ⊢
              refine e_icmp_ge 41 69 dX12_keyAt_38 (by omega) (by omega) (by decide) rfl (fun b38 => ?_) (fun b38 => ?_)
              · skip
                refine e_ldcS 71 (i := 20) (by decide) rfl rfl dX12_keyAt_69 rfl ?_
                refine e_iload_n (i := 2) 72 dX12_keyAt_71 rfl rfl rfl ?_
                refine e_iload_n (i := 3) 73 dX12_keyAt_72 rfl rfl rfl ?_
                refine e_iadd 74 dX12_keyAt_73 rfl ?_
                refine e_callF (av := [jI _]) 77 (i := 20) (by decide) mt_yJ_charAt mv_yJ_charAt wd_1410 (by decide) dX12_keyAt_74 rfl rfl rfl (Nat.le_of_ble_eq_true rfl) (jroom (by decide)) rfl (c_charAt (i := 20) (k := 47) (z := 100) (by decide) (by decide) (by decide +kernel) ?_)
                dsimp only [jpush]
                (try simp (disch := omega) only [put_r6, put_w6, put_r7, put_w7, put_r9, put_w9, put_r10, put_w10, put_r11, put_w11, put_r12, put_w12, put_r13, put_w13, put_r14, put_w14, put_r15, put_w15, put_ra, put_r8, put_r0, put_rt, put_wa, u1, u2, hn8])
                refine e_bipush 79 dX12_keyAt_77 (by decide) rfl ?_
                refine e_icmp_ne 82 97 dX12_keyAt_79 (by decide) (by decide) (by decide) rfl (fun _ => ?_) (fun h => absurd h (by decide))
                refine e_ls (ls2 := [(0, _), (1, _), (2, _)]) rfl ?_
                refine sk_8 (kk_9 hT hp hb ?_)
                rw [kx8, if_neg (fun q => by omega)] at h
                exact h
              · skip
                refine e_aload_n (i := 0) 42 dX12_keyAt_41 rfl rfl rfl ?_
                refine e_getr (j := 3) 45 fl_12_21 dX12_keyAt_42 at_928 rfl rfl tp_928_3 rfl ?_
                refine e_aload_n (i := 0) 46 dX12_keyAt_45 rfl rfl rfl ?_
                refine e_geti (j := 6) 49 fl_12_97 dX12_keyAt_46 at_928 (by decide) rfl rfl (fun r46 => ?_)
                simp (disch := omega) only [put_r6, put_w6, put_r7, put_w7, put_r9, put_w9, put_r10, put_w10, put_r11, put_w11, put_r12, put_w12, put_r13, put_w13, put_r14, put_w14, put_r15, put_w15, put_ra, put_r8, put_r0, put_rt, put_wa, u1, u2, hn8] at r46 ⊢
                refine e_iload_n (i := 3) 50 dX12_keyAt_49 rfl rfl rfl ?_
                refine e_iadd 51 dX12_keyAt_50 rfl ?_
                refine e_iald 52 dX12_keyAt_51 ar_931 (by omega) (by omega) rfl (fun r51 => ?_)
                simp (disch := omega) only [put_r6, put_w6, put_r7, put_w7, put_r9, put_w9, put_r10, put_w10, put_r11, put_w11, put_r12, put_w12, put_r13, put_w13, put_r14, put_w14, put_r15, put_w15, put_ra, put_r8, put_r0, put_rt, put_wa, u1, u2, hn8, Int.reduceAdd, Int.add_zero] at r51 ⊢
                refine e_ldcS 54 (i := 20) (by decide) rfl rfl dX12_keyAt_52 rfl ?_
                refine e_iload_n (i := 2) 55 dX12_keyAt_54 rfl rfl rfl ?_
                refine e_iload_n (i := 3) 56 dX12_keyAt_55 rfl rfl rfl ?_
                refine e_iadd 57 dX12_keyAt_56 rfl ?_
                refine e_callF (av := [jI _]) 60 (i := 20) (by decide) mt_yJ_charAt mv_yJ_charAt wd_1410 (by decide) dX12_keyAt_57 rfl rfl rfl (Nat.le_of_ble_eq_true rfl) (jroom (by decide)) rfl (c_charAt (i := 20) (k := 47) (z := 100) (by decide) (by decide) (by decide +kernel) ?_)
                dsimp only [jpush]
                (try simp (disch := omega) only [put_r6, put_w6, put_r7, put_w7, put_r9, put_w9, put_r10, put_w10, put_r11, put_w11, put_r12, put_w12, put_r13, put_w13, put_r14, put_w14, put_r15, put_w15, put_ra, put_r8, put_r0, put_rt, put_wa, u1, u2, hn8])
                refine e_icmp_ne 63 69 dX12_keyAt_60 (by omega) (by decide) (by decide) rfl (fun b60 => ?_) (fun b60 => ?_)
                · skip
                  refine e_ldcS 71 (i := 20) (by decide) rfl rfl dX12_keyAt_69 rfl ?_
                  refine e_iload_n (i := 2) 72 dX12_keyAt_71 rfl rfl rfl ?_
                  refine e_iload_n (i := 3) 73 dX12_keyAt_72 rfl rfl rfl ?_
                  refine e_iadd 74 dX12_keyAt_73 rfl ?_
                  refine e_callF (av := [jI _]) 77 (i := 20) (by decide) mt_yJ_charAt mv_yJ_charAt wd_1410 (by decide) dX12_keyAt_74 rfl rfl rfl (Nat.le_of_ble_eq_true rfl) (jroom (by decide)) rfl (c_charAt (i := 20) (k := 47) (z := 100) (by decide) (by decide) (by decide +kernel) ?_)
                  dsimp only [jpush]
                  (try simp (disch := omega) only [put_r6, put_w6, put_r7, put_w7, put_r9, put_w9, put_r10, put_w10, put_r11, put_w11, put_r12, put_w12, put_r13, put_w13, put_r14, put_w14, put_r15, put_w15, put_ra, put_r8, put_r0, put_rt, put_wa, u1, u2, hn8])
                  refine e_bipush 79 dX12_keyAt_77 (by decide) rfl ?_
                  refine e_icmp_ne 82 97 dX12_keyAt_79 (by decide) (by decide) (by decide) rfl (fun _ => ?_) (fun h => absurd h (by decide))
                  refine e_ls (ls2 := [(0, _), (1, _), (2, _)]) rfl ?_
                  refine sk_8 (kk_9 hT hp hb ?_)
                  rw [kx8, if_neg (fun q => by omega)] at h
                  exact h
                · skip
                  refine e_iinc (lsn := [(3, _), (0, _), (1, _), (2, _)]) 66 dX12_keyAt_63 rfl (by decide) rfl rfl ?_
                  refine e_goto 15 dX12_keyAt_66 (by decide) ?_
                  refine e_ldcS 17 (i := 20) (by decide) rfl rfl dX12_keyAt_15 rfl ?_
                  refine e_iload_n (i := 2) 18 dX12_keyAt_17 rfl rfl rfl ?_
                  refine e_iload_n (i := 3) 19 dX12_keyAt_18 rfl rfl rfl ?_
                  refine e_iadd 20 dX12_keyAt_19 rfl ?_
                  refine e_callF (av := [jI _]) 23 (i := 20) (by decide) mt_yJ_charAt mv_yJ_charAt wd_1410 (by decide) dX12_keyAt_20 rfl rfl rfl (Nat.le_of_ble_eq_true rfl) (jroom (by decide)) rfl (c_charAt (i := 20) (k := 48) (z := 32) (by decide) (by decide) (by decide +kernel) ?_)
                  dsimp only [jpush]
                  (try simp (disch := omega) only [put_r6, put_w6, put_r7, put_w7, put_r9, put_w9, put_r10, put_w10, put_r11, put_w11, put_r12, put_w12, put_r13, put_w13, put_r14, put_w14, put_r15, put_w15, put_ra, put_r8, put_r0, put_rt, put_wa, u1, u2, hn8])
                  refine e_bipush 25 dX12_keyAt_23 (by decide) rfl ?_
                  refine e_icmp_eq 28 69 dX12_keyAt_25 (by decide) (by decide) (by decide) rfl (fun _ => ?_) (fun h => absurd h (by decide))
                  refine e_ldcS 71 (i := 20) (by decide) rfl rfl dX12_keyAt_69 rfl ?_
                  refine e_iload_n (i := 2) 72 dX12_keyAt_71 rfl rfl rfl ?_
                  refine e_iload_n (i := 3) 73 dX12_keyAt_72 rfl rfl rfl ?_
                  refine e_iadd 74 dX12_keyAt_73 rfl ?_
                  refine e_callF (av := [jI _]) 77 (i := 20) (by decide) mt_yJ_charAt mv_yJ_charAt wd_1410 (by decide) dX12_keyAt_74 rfl rfl rfl (Nat.le_of_ble_eq_true rfl) (jroom (by decide)) rfl (c_charAt (i := 20) (k := 48) (z := 32) (by decide) (by decide) (by decide +kernel) ?_)
                  dsimp only [jpush]
                  (try simp (disch := omega) only [put_r6, put_w6, put_r7, put_w7, put_r9, put_w9, put_r10, put_w10, put_r11, put_w11, put_r12, put_w12, put_r13, put_w13, put_r14, put_w14, put_r15, put_w15, put_ra, put_r8, put_r0, put_rt, put_wa, u1, u2, hn8])
                  refine e_bipush 79 dX12_keyAt_77 (by decide) rfl ?_
                  refine e_icmp_ne 82 97 dX12_keyAt_79 (by decide) (by decide) (by decide) rfl (fun h => absurd h (by decide)) (fun _ => ?_)
                  refine e_aload_n (i := 0) 83 dX12_keyAt_82 rfl rfl rfl ?_
                  refine e_geti (j := 6) 86 fl_12_97 dX12_keyAt_83 at_928 (by decide) rfl rfl (fun r83 => ?_)
                  simp (disch := omega) only [put_r6, put_w6, put_r7, put_w7, put_r9, put_w9, put_r10, put_w10, put_r11, put_w11, put_r12, put_w12, put_r13, put_w13, put_r14, put_w14, put_r15, put_w15, put_ra, put_r8, put_r0, put_rt, put_wa, u1, u2, hn8] at r83 ⊢
                  refine e_iload_n (i := 3) 87 dX12_keyAt_86 rfl rfl rfl ?_
                  refine e_iadd 88 dX12_keyAt_87 rfl ?_
                  refine e_aload_n (i := 0) 89 dX12_keyAt_88 rfl rfl rfl ?_
                  refine e_geti (j := 7) 92 fl_12_100 dX12_keyAt_89 at_928 (by decide) rfl rfl (fun r89 => ?_)
                  simp (disch := omega) only [put_r6, put_w6, put_r7, put_w7, put_r9, put_w9, put_r10, put_w10, put_r11, put_w11, put_r12, put_w12, put_r13, put_w13, put_r14, put_w14, put_r15, put_w15, put_ra, put_r8, put_r0, put_rt, put_wa, u1, u2, hn8] at r89 ⊢
                  refine e_icmp_ne 95 97 dX12_keyAt_92 (by omega) (by omega) (by decide) rfl (fun b92 => ?_) (fun b92 => ?_)
                  · skip
                    refine e_ls (ls2 := [(0, _), (1, _), (2, _)]) rfl ?_
                    refine sk_8 (kk_9 hT hp hb ?_)
                    rw [kx8, if_neg (fun q => by omega)] at h
                    exact h
                  · skip
                    refine e_iload_n (i := 1) 96 dX12_keyAt_95 rfl rfl rfl ?_
                    refine e_iret dX12_keyAt_96 ?_
                    rw [kx8, if_pos (by omega)] at h
                    exact h

theorem sk_7 {X : jX} {Y : jM} {Q : Int → jM → Prop} (h : jE X yX12_keyAt cX12_keyAt 4 (some .int) 5 Q Y 4 [(0, jR 928), (1, jI 8), (2, jI 44)] []) : jE X yX12_keyAt cX12_keyAt 4 (some .int) 5 Q Y 97 [(0, jR 928), (1, jI 7), (2, jI 39)] [] := by
  refine e_ldcS 99 (i := 20) (by decide) rfl rfl dX12_keyAt_97 rfl ?_
  refine e_iload_n (i := 2) 100 dX12_keyAt_99 rfl rfl rfl ?_
  refine e_callF (av := [jI _]) 103 (i := 20) (by decide) mt_yJ_charAt mv_yJ_charAt wd_1410 (by decide) dX12_keyAt_100 rfl rfl rfl (Nat.le_of_ble_eq_true rfl) (jroom (by decide)) rfl (c_charAt (i := 20) (k := 39) (z := 109) (by decide) (by decide) (by decide +kernel) ?_)
  dsimp only [jpush]
  refine e_bipush 105 dX12_keyAt_103 (by decide) rfl ?_
  refine e_icmp_eq 108 114 dX12_keyAt_105 (by decide) (by decide) (by decide) rfl (fun h => absurd h (by decide)) (fun _ => ?_)
  refine e_iinc (lsn := [(2, _), (0, _), (1, _)]) 111 dX12_keyAt_108 rfl (by decide) rfl rfl ?_
  refine e_goto 97 dX12_keyAt_111 (by decide) ?_
  refine e_ldcS 99 (i := 20) (by decide) rfl rfl dX12_keyAt_97 rfl ?_
  refine e_iload_n (i := 2) 100 dX12_keyAt_99 rfl rfl rfl ?_
  refine e_callF (av := [jI _]) 103 (i := 20) (by decide) mt_yJ_charAt mv_yJ_charAt wd_1410 (by decide) dX12_keyAt_100 rfl rfl rfl (Nat.le_of_ble_eq_true rfl) (jroom (by decide)) rfl (c_charAt (i := 20) (k := 40) (z := 111) (by decide) (by decide) (by decide +kernel) ?_)
  dsimp only [jpush]
  refine e_bipush 105 dX12_keyAt_103 (by decide) rfl ?_
  refine e_icmp_eq 108 114 dX12_keyAt_105 (by decide) (by decide) (by decide) rfl (fun h => absurd h (by decide)) (fun _ => ?_)
  refine e_iinc (lsn := [(2, _), (0, _), (1, _)]) 111 dX12_keyAt_108 rfl (by decide) rfl rfl ?_
  refine e_goto 97 dX12_keyAt_111 (by decide) ?_
  refine e_ldcS 99 (i := 20) (by decide) rfl rfl dX12_keyAt_97 rfl ?_
  refine e_iload_n (i := 2) 100 dX12_keyAt_99 rfl rfl rfl ?_
  refine e_callF (av := [jI _]) 103 (i := 20) (by decide) mt_yJ_charAt mv_yJ_charAt wd_1410 (by decide) dX12_keyAt_100 rfl rfl rfl (Nat.le_of_ble_eq_true rfl) (jroom (by decide)) rfl (c_charAt (i := 20) (k := 41) (z := 116) (by decide) (by decide) (by decide +kernel) ?_)
  dsimp only [jpush]
  refine e_bipush 105 dX12_keyAt_103 (by decide) rfl ?_
  refine e_icmp_eq 108 114 dX12_keyAt_105 (by decide) (by decide) (by decide) rfl (fun h => absurd h (by decide)) (fun _ => ?_)
  refine e_iinc (lsn := [(2, _), (0, _), (1, _)]) 111 dX12_keyAt_108 rfl (by decide) rfl rfl ?_
  refine e_goto 97 dX12_keyAt_111 (by decide) ?_
  refine e_ldcS 99 (i := 20) (by decide) rfl rfl dX12_keyAt_97 rfl ?_
  refine e_iload_n (i := 2) 100 dX12_keyAt_99 rfl rfl rfl ?_
  refine e_callF (av := [jI _]) 103 (i := 20) (by decide) mt_yJ_charAt mv_yJ_charAt wd_1410 (by decide) dX12_keyAt_100 rfl rfl rfl (Nat.le_of_ble_eq_true rfl) (jroom (by decide)) rfl (c_charAt (i := 20) (k := 42) (z := 104) (by decide) (by decide) (by decide +kernel) ?_)
  dsimp only [jpush]
  refine e_bipush 105 dX12_keyAt_103 (by decide) rfl ?_
  refine e_icmp_eq 108 114 dX12_keyAt_105 (by decide) (by decide) (by decide) rfl (fun h => absurd h (by decide)) (fun _ => ?_)
  refine e_iinc (lsn := [(2, _), (0, _), (1, _)]) 111 dX12_keyAt_108 rfl (by decide) rfl rfl ?_
  refine e_goto 97 dX12_keyAt_111 (by decide) ?_
  refine e_ldcS 99 (i := 20) (by decide) rfl rfl dX12_keyAt_97 rfl ?_
  refine e_iload_n (i := 2) 100 dX12_keyAt_99 rfl rfl rfl ?_
  refine e_callF (av := [jI _]) 103 (i := 20) (by decide) mt_yJ_charAt mv_yJ_charAt wd_1410 (by decide) dX12_keyAt_100 rfl rfl rfl (Nat.le_of_ble_eq_true rfl) (jroom (by decide)) rfl (c_charAt (i := 20) (k := 43) (z := 32) (by decide) (by decide) (by decide +kernel) ?_)
  dsimp only [jpush]
  refine e_bipush 105 dX12_keyAt_103 (by decide) rfl ?_
  refine e_icmp_eq 108 114 dX12_keyAt_105 (by decide) (by decide) (by decide) rfl (fun _ => ?_) (fun h => absurd h (by decide))
  refine e_iinc (lsn := [(2, _), (0, _), (1, _)]) 117 dX12_keyAt_114 rfl (by decide) rfl rfl ?_
  refine e_iinc (lsn := [(1, _), (2, _), (0, _)]) 120 dX12_keyAt_117 rfl (by decide) rfl rfl ?_
  refine e_goto 4 dX12_keyAt_120 (by decide) ?_
  refine e_ls (ls2 := [(0, _), (1, _), (2, _)]) rfl ?_
  exact h

theorem kk_7 {X : jX} {M : jM} {n : Int} {Q : Int → jM → Prop} (hT : RT M n) {s : PS} (hp : 0 ≤ s.1) (hb : s.1 ≤ s.2.1 ∧ s.2.1 ≤ n) (h : Q (kx7 (M 931) s.1 s.2.1) (put M s)) : jE X yX12_keyAt cX12_keyAt 4 (some .int) 5 Q (put M s) 4 [(0, jR 928), (1, jI 7), (2, jI 39)] [] := by
  have hn8 := hT.1
  have hn := hT.2.1
  refine e_iload_n (i := 2) 5 dX12_keyAt_4 rfl rfl rfl ?_
  refine e_ldcS 7 (i := 20) (by decide) rfl rfl dX12_keyAt_5 rfl ?_
  refine e_callF (av := []) 10 (i := 20) (by decide) mt_yJ_len mv_yJ_len wd_1409 (by decide) dX12_keyAt_7 rfl rfl rfl (Nat.le_of_ble_eq_true rfl) (jroom (by decide)) rfl (c_strlen (i := 20) (z := 99) (by decide) (by decide) ?_)
  dsimp only [jpush]
  (try simp (disch := omega) only [put_r6, put_w6, put_r7, put_w7, put_r9, put_w9, put_r10, put_w10, put_r11, put_w11, put_r12, put_w12, put_r13, put_w13, put_r14, put_w14, put_r15, put_w15, put_ra, put_r8, put_r0, put_rt, put_wa, u1, u2, hn8])
  refine e_icmp_ge 13 123 dX12_keyAt_10 (by decide) (by decide) (by decide) rfl (fun h => absurd h (by decide)) (fun _ => ?_)
  refine e_iconst 14 dX12_keyAt_13 rfl ?_
  refine e_istore_n (i := 3) (lsn := [(3, _), (0, _), (1, _), (2, _)]) 15 dX12_keyAt_14 rfl (by decide) rfl rfl ?_
  refine e_ldcS 17 (i := 20) (by decide) rfl rfl dX12_keyAt_15 rfl ?_
  refine e_iload_n (i := 2) 18 dX12_keyAt_17 rfl rfl rfl ?_
  refine e_iload_n (i := 3) 19 dX12_keyAt_18 rfl rfl rfl ?_
  refine e_iadd 20 dX12_keyAt_19 rfl ?_
  refine e_callF (av := [jI _]) 23 (i := 20) (by decide) mt_yJ_charAt mv_yJ_charAt wd_1410 (by decide) dX12_keyAt_20 rfl rfl rfl (Nat.le_of_ble_eq_true rfl) (jroom (by decide)) rfl (c_charAt (i := 20) (k := 39) (z := 109) (by decide) (by decide) (by decide +kernel) ?_)
  dsimp only [jpush]
  (try simp (disch := omega) only [put_r6, put_w6, put_r7, put_w7, put_r9, put_w9, put_r10, put_w10, put_r11, put_w11, put_r12, put_w12, put_r13, put_w13, put_r14, put_w14, put_r15, put_w15, put_ra, put_r8, put_r0, put_rt, put_wa, u1, u2, hn8])
  refine e_bipush 25 dX12_keyAt_23 (by decide) rfl ?_
  refine e_icmp_eq 28 69 dX12_keyAt_25 (by decide) (by decide) (by decide) rfl (fun h => absurd h (by decide)) (fun _ => ?_)
  refine e_aload_n (i := 0) 29 dX12_keyAt_28 rfl rfl rfl ?_
  refine e_geti (j := 6) 32 fl_12_97 dX12_keyAt_29 at_928 (by decide) rfl rfl (fun r29 => ?_)
  simp (disch := omega) only [put_r6, put_w6, put_r7, put_w7, put_r9, put_w9, put_r10, put_w10, put_r11, put_w11, put_r12, put_w12, put_r13, put_w13, put_r14, put_w14, put_r15, put_w15, put_ra, put_r8, put_r0, put_rt, put_wa, u1, u2, hn8] at r29 ⊢
  refine e_iload_n (i := 3) 33 dX12_keyAt_32 rfl rfl rfl ?_
  refine e_iadd 34 dX12_keyAt_33 rfl ?_
  refine e_aload_n (i := 0) 35 dX12_keyAt_34 rfl rfl rfl ?_
  refine e_geti (j := 7) 38 fl_12_100 dX12_keyAt_35 at_928 (by decide) rfl rfl (fun r35 => ?_)
  simp (disch := omega) only [put_r6, put_w6, put_r7, put_w7, put_r9, put_w9, put_r10, put_w10, put_r11, put_w11, put_r12, put_w12, put_r13, put_w13, put_r14, put_w14, put_r15, put_w15, put_ra, put_r8, put_r0, put_rt, put_wa, u1, u2, hn8] at r35 ⊢
  refine e_icmp_ge 41 69 dX12_keyAt_38 (by omega) (by omega) (by decide) rfl (fun b38 => ?_) (fun b38 => ?_)
  · skip
    refine e_ldcS 71 (i := 20) (by decide) rfl rfl dX12_keyAt_69 rfl ?_
    refine e_iload_n (i := 2) 72 dX12_keyAt_71 rfl rfl rfl ?_
    refine e_iload_n (i := 3) 73 dX12_keyAt_72 rfl rfl rfl ?_
    refine e_iadd 74 dX12_keyAt_73 rfl ?_
    refine e_callF (av := [jI _]) 77 (i := 20) (by decide) mt_yJ_charAt mv_yJ_charAt wd_1410 (by decide) dX12_keyAt_74 rfl rfl rfl (Nat.le_of_ble_eq_true rfl) (jroom (by decide)) rfl (c_charAt (i := 20) (k := 39) (z := 109) (by decide) (by decide) (by decide +kernel) ?_)
    dsimp only [jpush]
    (try simp (disch := omega) only [put_r6, put_w6, put_r7, put_w7, put_r9, put_w9, put_r10, put_w10, put_r11, put_w11, put_r12, put_w12, put_r13, put_w13, put_r14, put_w14, put_r15, put_w15, put_ra, put_r8, put_r0, put_rt, put_wa, u1, u2, hn8])
    refine e_bipush 79 dX12_keyAt_77 (by decide) rfl ?_
    refine e_icmp_ne 82 97 dX12_keyAt_79 (by decide) (by decide) (by decide) rfl (fun _ => ?_) (fun h => absurd h (by decide))
    refine e_ls (ls2 := [(0, _), (1, _), (2, _)]) rfl ?_
    refine sk_7 (kk_8 hT hp hb ?_)
    rw [kx7, if_neg (fun q => by omega)] at h
    exact h
  · skip
    refine e_aload_n (i := 0) 42 dX12_keyAt_41 rfl rfl rfl ?_
    refine e_getr (j := 3) 45 fl_12_21 dX12_keyAt_42 at_928 rfl rfl tp_928_3 rfl ?_
    refine e_aload_n (i := 0) 46 dX12_keyAt_45 rfl rfl rfl ?_
    refine e_geti (j := 6) 49 fl_12_97 dX12_keyAt_46 at_928 (by decide) rfl rfl (fun r46 => ?_)
    simp (disch := omega) only [put_r6, put_w6, put_r7, put_w7, put_r9, put_w9, put_r10, put_w10, put_r11, put_w11, put_r12, put_w12, put_r13, put_w13, put_r14, put_w14, put_r15, put_w15, put_ra, put_r8, put_r0, put_rt, put_wa, u1, u2, hn8] at r46 ⊢
    refine e_iload_n (i := 3) 50 dX12_keyAt_49 rfl rfl rfl ?_
    refine e_iadd 51 dX12_keyAt_50 rfl ?_
    refine e_iald 52 dX12_keyAt_51 ar_931 (by omega) (by omega) rfl (fun r51 => ?_)
    simp (disch := omega) only [put_r6, put_w6, put_r7, put_w7, put_r9, put_w9, put_r10, put_w10, put_r11, put_w11, put_r12, put_w12, put_r13, put_w13, put_r14, put_w14, put_r15, put_w15, put_ra, put_r8, put_r0, put_rt, put_wa, u1, u2, hn8, Int.reduceAdd, Int.add_zero] at r51 ⊢
    refine e_ldcS 54 (i := 20) (by decide) rfl rfl dX12_keyAt_52 rfl ?_
    refine e_iload_n (i := 2) 55 dX12_keyAt_54 rfl rfl rfl ?_
    refine e_iload_n (i := 3) 56 dX12_keyAt_55 rfl rfl rfl ?_
    refine e_iadd 57 dX12_keyAt_56 rfl ?_
    refine e_callF (av := [jI _]) 60 (i := 20) (by decide) mt_yJ_charAt mv_yJ_charAt wd_1410 (by decide) dX12_keyAt_57 rfl rfl rfl (Nat.le_of_ble_eq_true rfl) (jroom (by decide)) rfl (c_charAt (i := 20) (k := 39) (z := 109) (by decide) (by decide) (by decide +kernel) ?_)
    dsimp only [jpush]
    (try simp (disch := omega) only [put_r6, put_w6, put_r7, put_w7, put_r9, put_w9, put_r10, put_w10, put_r11, put_w11, put_r12, put_w12, put_r13, put_w13, put_r14, put_w14, put_r15, put_w15, put_ra, put_r8, put_r0, put_rt, put_wa, u1, u2, hn8])
    refine e_icmp_ne 63 69 dX12_keyAt_60 (by omega) (by decide) (by decide) rfl (fun b60 => ?_) (fun b60 => ?_)
    · skip
      refine e_ldcS 71 (i := 20) (by decide) rfl rfl dX12_keyAt_69 rfl ?_
      refine e_iload_n (i := 2) 72 dX12_keyAt_71 rfl rfl rfl ?_
      refine e_iload_n (i := 3) 73 dX12_keyAt_72 rfl rfl rfl ?_
      refine e_iadd 74 dX12_keyAt_73 rfl ?_
      refine e_callF (av := [jI _]) 77 (i := 20) (by decide) mt_yJ_charAt mv_yJ_charAt wd_1410 (by decide) dX12_keyAt_74 rfl rfl rfl (Nat.le_of_ble_eq_true rfl) (jroom (by decide)) rfl (c_charAt (i := 20) (k := 39) (z := 109) (by decide) (by decide) (by decide +kernel) ?_)
      dsimp only [jpush]
      (try simp (disch := omega) only [put_r6, put_w6, put_r7, put_w7, put_r9, put_w9, put_r10, put_w10, put_r11, put_w11, put_r12, put_w12, put_r13, put_w13, put_r14, put_w14, put_r15, put_w15, put_ra, put_r8, put_r0, put_rt, put_wa, u1, u2, hn8])
      refine e_bipush 79 dX12_keyAt_77 (by decide) rfl ?_
      refine e_icmp_ne 82 97 dX12_keyAt_79 (by decide) (by decide) (by decide) rfl (fun _ => ?_) (fun h => absurd h (by decide))
      refine e_ls (ls2 := [(0, _), (1, _), (2, _)]) rfl ?_
      refine sk_7 (kk_8 hT hp hb ?_)
      rw [kx7, if_neg (fun q => by omega)] at h
      exact h
    · skip
      refine e_iinc (lsn := [(3, _), (0, _), (1, _), (2, _)]) 66 dX12_keyAt_63 rfl (by decide) rfl rfl ?_
      refine e_goto 15 dX12_keyAt_66 (by decide) ?_
      refine e_ldcS 17 (i := 20) (by decide) rfl rfl dX12_keyAt_15 rfl ?_
      refine e_iload_n (i := 2) 18 dX12_keyAt_17 rfl rfl rfl ?_
      refine e_iload_n (i := 3) 19 dX12_keyAt_18 rfl rfl rfl ?_
      refine e_iadd 20 dX12_keyAt_19 rfl ?_
      refine e_callF (av := [jI _]) 23 (i := 20) (by decide) mt_yJ_charAt mv_yJ_charAt wd_1410 (by decide) dX12_keyAt_20 rfl rfl rfl (Nat.le_of_ble_eq_true rfl) (jroom (by decide)) rfl (c_charAt (i := 20) (k := 40) (z := 111) (by decide) (by decide) (by decide +kernel) ?_)
      dsimp only [jpush]
      (try simp (disch := omega) only [put_r6, put_w6, put_r7, put_w7, put_r9, put_w9, put_r10, put_w10, put_r11, put_w11, put_r12, put_w12, put_r13, put_w13, put_r14, put_w14, put_r15, put_w15, put_ra, put_r8, put_r0, put_rt, put_wa, u1, u2, hn8])
      refine e_bipush 25 dX12_keyAt_23 (by decide) rfl ?_
      refine e_icmp_eq 28 69 dX12_keyAt_25 (by decide) (by decide) (by decide) rfl (fun h => absurd h (by decide)) (fun _ => ?_)
      refine e_aload_n (i := 0) 29 dX12_keyAt_28 rfl rfl rfl ?_
      refine e_geti (j := 6) 32 fl_12_97 dX12_keyAt_29 at_928 (by decide) rfl rfl (fun r29 => ?_)
      simp (disch := omega) only [put_r6, put_w6, put_r7, put_w7, put_r9, put_w9, put_r10, put_w10, put_r11, put_w11, put_r12, put_w12, put_r13, put_w13, put_r14, put_w14, put_r15, put_w15, put_ra, put_r8, put_r0, put_rt, put_wa, u1, u2, hn8] at r29 ⊢
      refine e_iload_n (i := 3) 33 dX12_keyAt_32 rfl rfl rfl ?_
      refine e_iadd 34 dX12_keyAt_33 rfl ?_
      refine e_aload_n (i := 0) 35 dX12_keyAt_34 rfl rfl rfl ?_
      refine e_geti (j := 7) 38 fl_12_100 dX12_keyAt_35 at_928 (by decide) rfl rfl (fun r35 => ?_)
      simp (disch := omega) only [put_r6, put_w6, put_r7, put_w7, put_r9, put_w9, put_r10, put_w10, put_r11, put_w11, put_r12, put_w12, put_r13, put_w13, put_r14, put_w14, put_r15, put_w15, put_ra, put_r8, put_r0, put_rt, put_wa, u1, u2, hn8] at r35 ⊢
      refine e_icmp_ge 41 69 dX12_keyAt_38 (by omega) (by omega) (by decide) rfl (fun b38 => ?_) (fun b38 => ?_)
      · skip
        refine e_ldcS 71 (i := 20) (by decide) rfl rfl dX12_keyAt_69 rfl ?_
        refine e_iload_n (i := 2) 72 dX12_keyAt_71 rfl rfl rfl ?_
        refine e_iload_n (i := 3) 73 dX12_keyAt_72 rfl rfl rfl ?_
        refine e_iadd 74 dX12_keyAt_73 rfl ?_
        refine e_callF (av := [jI _]) 77 (i := 20) (by decide) mt_yJ_charAt mv_yJ_charAt wd_1410 (by decide) dX12_keyAt_74 rfl rfl rfl (Nat.le_of_ble_eq_true rfl) (jroom (by decide)) rfl (c_charAt (i := 20) (k := 40) (z := 111) (by decide) (by decide) (by decide +kernel) ?_)
        dsimp only [jpush]
        (try simp (disch := omega) only [put_r6, put_w6, put_r7, put_w7, put_r9, put_w9, put_r10, put_w10, put_r11, put_w11, put_r12, put_w12, put_r13, put_w13, put_r14, put_w14, put_r15, put_w15, put_ra, put_r8, put_r0, put_rt, put_wa, u1, u2, hn8])
        refine e_bipush 79 dX12_keyAt_77 (by decide) rfl ?_
        refine e_icmp_ne 82 97 dX12_keyAt_79 (by decide) (by decide) (by decide) rfl (fun _ => ?_) (fun h => absurd h (by decide))
        refine e_ls (ls2 := [(0, _), (1, _), (2, _)]) rfl ?_
        refine sk_7 (kk_8 hT hp hb ?_)
        rw [kx7, if_neg (fun q => by omega)] at h
        exact h
      · skip
        refine e_aload_n (i := 0) 42 dX12_keyAt_41 rfl rfl rfl ?_
        refine e_getr (j := 3) 45 fl_12_21 dX12_keyAt_42 at_928 rfl rfl tp_928_3 rfl ?_
        refine e_aload_n (i := 0) 46 dX12_keyAt_45 rfl rfl rfl ?_
        refine e_geti (j := 6) 49 fl_12_97 dX12_keyAt_46 at_928 (by decide) rfl rfl (fun r46 => ?_)
        simp (disch := omega) only [put_r6, put_w6, put_r7, put_w7, put_r9, put_w9, put_r10, put_w10, put_r11, put_w11, put_r12, put_w12, put_r13, put_w13, put_r14, put_w14, put_r15, put_w15, put_ra, put_r8, put_r0, put_rt, put_wa, u1, u2, hn8] at r46 ⊢
        refine e_iload_n (i := 3) 50 dX12_keyAt_49 rfl rfl rfl ?_
        refine e_iadd 51 dX12_keyAt_50 rfl ?_
        refine e_iald 52 dX12_keyAt_51 ar_931 (by omega) (by omega) rfl (fun r51 => ?_)
        simp (disch := omega) only [put_r6, put_w6, put_r7, put_w7, put_r9, put_w9, put_r10, put_w10, put_r11, put_w11, put_r12, put_w12, put_r13, put_w13, put_r14, put_w14, put_r15, put_w15, put_ra, put_r8, put_r0, put_rt, put_wa, u1, u2, hn8, Int.reduceAdd, Int.add_zero] at r51 ⊢
        refine e_ldcS 54 (i := 20) (by decide) rfl rfl dX12_keyAt_52 rfl ?_
        refine e_iload_n (i := 2) 55 dX12_keyAt_54 rfl rfl rfl ?_
        refine e_iload_n (i := 3) 56 dX12_keyAt_55 rfl rfl rfl ?_
        refine e_iadd 57 dX12_keyAt_56 rfl ?_
        refine e_callF (av := [jI _]) 60 (i := 20) (by decide) mt_yJ_charAt mv_yJ_charAt wd_1410 (by decide) dX12_keyAt_57 rfl rfl rfl (Nat.le_of_ble_eq_true rfl) (jroom (by decide)) rfl (c_charAt (i := 20) (k := 40) (z := 111) (by decide) (by decide) (by decide +kernel) ?_)
        dsimp only [jpush]
        (try simp (disch := omega) only [put_r6, put_w6, put_r7, put_w7, put_r9, put_w9, put_r10, put_w10, put_r11, put_w11, put_r12, put_w12, put_r13, put_w13, put_r14, put_w14, put_r15, put_w15, put_ra, put_r8, put_r0, put_rt, put_wa, u1, u2, hn8])
        refine e_icmp_ne 63 69 dX12_keyAt_60 (by omega) (by decide) (by decide) rfl (fun b60 => ?_) (fun b60 => ?_)
        · skip
          refine e_ldcS 71 (i := 20) (by decide) rfl rfl dX12_keyAt_69 rfl ?_
          refine e_iload_n (i := 2) 72 dX12_keyAt_71 rfl rfl rfl ?_
          refine e_iload_n (i := 3) 73 dX12_keyAt_72 rfl rfl rfl ?_
          refine e_iadd 74 dX12_keyAt_73 rfl ?_
          refine e_callF (av := [jI _]) 77 (i := 20) (by decide) mt_yJ_charAt mv_yJ_charAt wd_1410 (by decide) dX12_keyAt_74 rfl rfl rfl (Nat.le_of_ble_eq_true rfl) (jroom (by decide)) rfl (c_charAt (i := 20) (k := 40) (z := 111) (by decide) (by decide) (by decide +kernel) ?_)
          dsimp only [jpush]
          (try simp (disch := omega) only [put_r6, put_w6, put_r7, put_w7, put_r9, put_w9, put_r10, put_w10, put_r11, put_w11, put_r12, put_w12, put_r13, put_w13, put_r14, put_w14, put_r15, put_w15, put_ra, put_r8, put_r0, put_rt, put_wa, u1, u2, hn8])
          refine e_bipush 79 dX12_keyAt_77 (by decide) rfl ?_
          refine e_icmp_ne 82 97 dX12_keyAt_79 (by decide) (by decide) (by decide) rfl (fun _ => ?_) (fun h => absurd h (by decide))
          refine e_ls (ls2 := [(0, _), (1, _), (2, _)]) rfl ?_
          refine sk_7 (kk_8 hT hp hb ?_)
          rw [kx7, if_neg (fun q => by omega)] at h
          exact h
        · skip
          refine e_iinc (lsn := [(3, _), (0, _), (1, _), (2, _)]) 66 dX12_keyAt_63 rfl (by decide) rfl rfl ?_
          refine e_goto 15 dX12_keyAt_66 (by decide) ?_
          refine e_ldcS 17 (i := 20) (by decide) rfl rfl dX12_keyAt_15 rfl ?_
          refine e_iload_n (i := 2) 18 dX12_keyAt_17 rfl rfl rfl ?_
          refine e_iload_n (i := 3) 19 dX12_keyAt_18 rfl rfl rfl ?_
          refine e_iadd 20 dX12_keyAt_19 rfl ?_
          refine e_callF (av := [jI _]) 23 (i := 20) (by decide) mt_yJ_charAt mv_yJ_charAt wd_1410 (by decide) dX12_keyAt_20 rfl rfl rfl (Nat.le_of_ble_eq_true rfl) (jroom (by decide)) rfl (c_charAt (i := 20) (k := 41) (z := 116) (by decide) (by decide) (by decide +kernel) ?_)
          dsimp only [jpush]
          (try simp (disch := omega) only [put_r6, put_w6, put_r7, put_w7, put_r9, put_w9, put_r10, put_w10, put_r11, put_w11, put_r12, put_w12, put_r13, put_w13, put_r14, put_w14, put_r15, put_w15, put_ra, put_r8, put_r0, put_rt, put_wa, u1, u2, hn8])
          refine e_bipush 25 dX12_keyAt_23 (by decide) rfl ?_
          refine e_icmp_eq 28 69 dX12_keyAt_25 (by decide) (by decide) (by decide) rfl (fun h => absurd h (by decide)) (fun _ => ?_)
          refine e_aload_n (i := 0) 29 dX12_keyAt_28 rfl rfl rfl ?_
          refine e_geti (j := 6) 32 fl_12_97 dX12_keyAt_29 at_928 (by decide) rfl rfl (fun r29 => ?_)
          simp (disch := omega) only [put_r6, put_w6, put_r7, put_w7, put_r9, put_w9, put_r10, put_w10, put_r11, put_w11, put_r12, put_w12, put_r13, put_w13, put_r14, put_w14, put_r15, put_w15, put_ra, put_r8, put_r0, put_rt, put_wa, u1, u2, hn8] at r29 ⊢
          refine e_iload_n (i := 3) 33 dX12_keyAt_32 rfl rfl rfl ?_
          refine e_iadd 34 dX12_keyAt_33 rfl ?_
          refine e_aload_n (i := 0) 35 dX12_keyAt_34 rfl rfl rfl ?_
          refine e_geti (j := 7) 38 fl_12_100 dX12_keyAt_35 at_928 (by decide) rfl rfl (fun r35 => ?_)
          simp (disch := omega) only [put_r6, put_w6, put_r7, put_w7, put_r9, put_w9, put_r10, put_w10, put_r11, put_w11, put_r12, put_w12, put_r13, put_w13, put_r14, put_w14, put_r15, put_w15, put_ra, put_r8, put_r0, put_rt, put_wa, u1, u2, hn8] at r35 ⊢
          refine e_icmp_ge 41 69 dX12_keyAt_38 (by omega) (by omega) (by decide) rfl (fun b38 => ?_) (fun b38 => ?_)
          · skip
            refine e_ldcS 71 (i := 20) (by decide) rfl rfl dX12_keyAt_69 rfl ?_
            refine e_iload_n (i := 2) 72 dX12_keyAt_71 rfl rfl rfl ?_
            refine e_iload_n (i := 3) 73 dX12_keyAt_72 rfl rfl rfl ?_
            refine e_iadd 74 dX12_keyAt_73 rfl ?_
            refine e_callF (av := [jI _]) 77 (i := 20) (by decide) mt_yJ_charAt mv_yJ_charAt wd_1410 (by decide) dX12_keyAt_74 rfl rfl rfl (Nat.le_of_ble_eq_true rfl) (jroom (by decide)) rfl (c_charAt (i := 20) (k := 41) (z := 116) (by decide) (by decide) (by decide +kernel) ?_)
            dsimp only [jpush]
            (try simp (disch := omega) only [put_r6, put_w6, put_r7, put_w7, put_r9, put_w9, put_r10, put_w10, put_r11, put_w11, put_r12, put_w12, put_r13, put_w13, put_r14, put_w14, put_r15, put_w15, put_ra, put_r8, put_r0, put_rt, put_wa, u1, u2, hn8])
            refine e_bipush 79 dX12_keyAt_77 (by decide) rfl ?_
            refine e_icmp_ne 82 97 dX12_keyAt_79 (by decide) (by decide) (by decide) rfl (fun _ => ?_) (fun h => absurd h (by decide))
            refine e_ls (ls2 := [(0, _), (1, _), (2, _)]) rfl ?_
            refine sk_7 (kk_8 hT hp hb ?_)
            rw [kx7, if_neg (fun q => by omega)] at h
            exact h
          · skip
            refine e_aload_n (i := 0) 42 dX12_keyAt_41 rfl rfl rfl ?_
            refine e_getr (j := 3) 45 fl_12_21 dX12_keyAt_42 at_928 rfl rfl tp_928_3 rfl ?_
            refine e_aload_n (i := 0) 46 dX12_keyAt_45 rfl rfl rfl ?_
            refine e_geti (j := 6) 49 fl_12_97 dX12_keyAt_46 at_928 (by decide) rfl rfl (fun r46 => ?_)
            simp (disch := omega) only [put_r6, put_w6, put_r7, put_w7, put_r9, put_w9, put_r10, put_w10, put_r11, put_w11, put_r12, put_w12, put_r13, put_w13, put_r14, put_w14, put_r15, put_w15, put_ra, put_r8, put_r0, put_rt, put_wa, u1, u2, hn8] at r46 ⊢
            refine e_iload_n (i := 3) 50 dX12_keyAt_49 rfl rfl rfl ?_
            refine e_iadd 51 dX12_keyAt_50 rfl ?_
            refine e_iald 52 dX12_keyAt_51 ar_931 (by omega) (by omega) rfl (fun r51 => ?_)
            simp (disch := omega) only [put_r6, put_w6, put_r7, put_w7, put_r9, put_w9, put_r10, put_w10, put_r11, put_w11, put_r12, put_w12, put_r13, put_w13, put_r14, put_w14, put_r15, put_w15, put_ra, put_r8, put_r0, put_rt, put_wa, u1, u2, hn8, Int.reduceAdd, Int.add_zero] at r51 ⊢
            refine e_ldcS 54 (i := 20) (by decide) rfl rfl dX12_keyAt_52 rfl ?_
            refine e_iload_n (i := 2) 55 dX12_keyAt_54 rfl rfl rfl ?_
            refine e_iload_n (i := 3) 56 dX12_keyAt_55 rfl rfl rfl ?_
            refine e_iadd 57 dX12_keyAt_56 rfl ?_
            refine e_callF (av := [jI _]) 60 (i := 20) (by decide) mt_yJ_charAt mv_yJ_charAt wd_1410 (by decide) dX12_keyAt_57 rfl rfl rfl (Nat.le_of_ble_eq_true rfl) (jroom (by decide)) rfl (c_charAt (i := 20) (k := 41) (z := 116) (by decide) (by decide) (by decide +kernel) ?_)
            dsimp only [jpush]
            (try simp (disch := omega) only [put_r6, put_w6, put_r7, put_w7, put_r9, put_w9, put_r10, put_w10, put_r11, put_w11, put_r12, put_w12, put_r13, put_w13, put_r14, put_w14, put_r15, put_w15, put_ra, put_r8, put_r0, put_rt, put_wa, u1, u2, hn8])
            refine e_icmp_ne 63 69 dX12_keyAt_60 (by omega) (by decide) (by decide) rfl (fun b60 => ?_) (fun b60 => ?_)
            · skip
              refine e_ldcS 71 (i := 20) (by decide) rfl rfl dX12_keyAt_69 rfl ?_
              refine e_iload_n (i := 2) 72 dX12_keyAt_71 rfl rfl rfl ?_
              refine e_iload_n (i := 3) 73 dX12_keyAt_72 rfl rfl rfl ?_
              refine e_iadd 74 dX12_keyAt_73 rfl ?_
              refine e_callF (av := [jI _]) 77 (i := 20) (by decide) mt_yJ_charAt mv_yJ_charAt wd_1410 (by decide) dX12_keyAt_74 rfl rfl rfl (Nat.le_of_ble_eq_true rfl) (jroom (by decide)) rfl (c_charAt (i := 20) (k := 41) (z := 116) (by decide) (by decide) (by decide +kernel) ?_)
              dsimp only [jpush]
              (try simp (disch := omega) only [put_r6, put_w6, put_r7, put_w7, put_r9, put_w9, put_r10, put_w10, put_r11, put_w11, put_r12, put_w12, put_r13, put_w13, put_r14, put_w14, put_r15, put_w15, put_ra, put_r8, put_r0, put_rt, put_wa, u1, u2, hn8])
              refine e_bipush 79 dX12_keyAt_77 (by decide) rfl ?_
              refine e_icmp_ne 82 97 dX12_keyAt_79 (by decide) (by decide) (by decide) rfl (fun _ => ?_) (fun h => absurd h (by decide))
              refine e_ls (ls2 := [(0, _), (1, _), (2, _)]) rfl ?_
              refine sk_7 (kk_8 hT hp hb ?_)
              rw [kx7, if_neg (fun q => by omega)] at h
              exact h
            · skip
              refine e_iinc (lsn := [(3, _), (0, _), (1, _), (2, _)]) 66 dX12_keyAt_63 rfl (by decide) rfl rfl ?_
              refine e_goto 15 dX12_keyAt_66 (by decide) ?_
              refine e_ldcS 17 (i := 20) (by decide) rfl rfl dX12_keyAt_15 rfl ?_
              refine e_iload_n (i := 2) 18 dX12_keyAt_17 rfl rfl rfl ?_
              refine e_iload_n (i := 3) 19 dX12_keyAt_18 rfl rfl rfl ?_
              refine e_iadd 20 dX12_keyAt_19 rfl ?_
              refine e_callF (av := [jI _]) 23 (i := 20) (by decide) mt_yJ_charAt mv_yJ_charAt wd_1410 (by decide) dX12_keyAt_20 rfl rfl rfl (Nat.le_of_ble_eq_true rfl) (jroom (by decide)) rfl (c_charAt (i := 20) (k := 42) (z := 104) (by decide) (by decide) (by decide +kernel) ?_)
              dsimp only [jpush]
              (try simp (disch := omega) only [put_r6, put_w6, put_r7, put_w7, put_r9, put_w9, put_r10, put_w10, put_r11, put_w11, put_r12, put_w12, put_r13, put_w13, put_r14, put_w14, put_r15, put_w15, put_ra, put_r8, put_r0, put_rt, put_wa, u1, u2, hn8])
              refine e_bipush 25 dX12_keyAt_23 (by decide) rfl ?_
              refine e_icmp_eq 28 69 dX12_keyAt_25 (by decide) (by decide) (by decide) rfl (fun h => absurd h (by decide)) (fun _ => ?_)
              refine e_aload_n (i := 0) 29 dX12_keyAt_28 rfl rfl rfl ?_
              refine e_geti (j := 6) 32 fl_12_97 dX12_keyAt_29 at_928 (by decide) rfl rfl (fun r29 => ?_)
              simp (disch := omega) only [put_r6, put_w6, put_r7, put_w7, put_r9, put_w9, put_r10, put_w10, put_r11, put_w11, put_r12, put_w12, put_r13, put_w13, put_r14, put_w14, put_r15, put_w15, put_ra, put_r8, put_r0, put_rt, put_wa, u1, u2, hn8] at r29 ⊢
              refine e_iload_n (i := 3) 33 dX12_keyAt_32 rfl rfl rfl ?_
              refine e_iadd 34 dX12_keyAt_33 rfl ?_
              refine e_aload_n (i := 0) 35 dX12_keyAt_34 rfl rfl rfl ?_
              refine e_geti (j := 7) 38 fl_12_100 dX12_keyAt_35 at_928 (by decide) rfl rfl (fun r35 => ?_)
              simp (disch := omega) only [put_r6, put_w6, put_r7, put_w7, put_r9, put_w9, put_r10, put_w10, put_r11, put_w11, put_r12, put_w12, put_r13, put_w13, put_r14, put_w14, put_r15, put_w15, put_ra, put_r8, put_r0, put_rt, put_wa, u1, u2, hn8] at r35 ⊢
              refine e_icmp_ge 41 69 dX12_keyAt_38 (by omega) (by omega) (by decide) rfl (fun b38 => ?_) (fun b38 => ?_)
              · skip
                refine e_ldcS 71 (i := 20) (by decide) rfl rfl dX12_keyAt_69 rfl ?_
                refine e_iload_n (i := 2) 72 dX12_keyAt_71 rfl rfl rfl ?_
                refine e_iload_n (i := 3) 73 dX12_keyAt_72 rfl rfl rfl ?_
                refine e_iadd 74 dX12_keyAt_73 rfl ?_
                refine e_callF (av := [jI _]) 77 (i := 20) (by decide) mt_yJ_charAt mv_yJ_charAt wd_1410 (by decide) dX12_keyAt_74 rfl rfl rfl (Nat.le_of_ble_eq_true rfl) (jroom (by decide)) rfl (c_charAt (i := 20) (k := 42) (z := 104) (by decide) (by decide) (by decide +kernel) ?_)
                dsimp only [jpush]
                (try simp (disch := omega) only [put_r6, put_w6, put_r7, put_w7, put_r9, put_w9, put_r10, put_w10, put_r11, put_w11, put_r12, put_w12, put_r13, put_w13, put_r14, put_w14, put_r15, put_w15, put_ra, put_r8, put_r0, put_rt, put_wa, u1, u2, hn8])
                refine e_bipush 79 dX12_keyAt_77 (by decide) rfl ?_
                refine e_icmp_ne 82 97 dX12_keyAt_79 (by decide) (by decide) (by decide) rfl (fun _ => ?_) (fun h => absurd h (by decide))
                refine e_ls (ls2 := [(0, _), (1, _), (2, _)]) rfl ?_
                refine sk_7 (kk_8 hT hp hb ?_)
                rw [kx7, if_neg (fun q => by omega)] at h
                exact h
              · skip
                refine e_aload_n (i := 0) 42 dX12_keyAt_41 rfl rfl rfl ?_
                refine e_getr (j := 3) 45 fl_12_21 dX12_keyAt_42 at_928 rfl rfl tp_928_3 rfl ?_
                refine e_aload_n (i := 0) 46 dX12_keyAt_45 rfl rfl rfl ?_
                refine e_geti (j := 6) 49 fl_12_97 dX12_keyAt_46 at_928 (by decide) rfl rfl (fun r46 => ?_)
                simp (disch := omega) only [put_r6, put_w6, put_r7, put_w7, put_r9, put_w9, put_r10, put_w10, put_r11, put_w11, put_r12, put_w12, put_r13, put_w13, put_r14, put_w14, put_r15, put_w15, put_ra, put_r8, put_r0, put_rt, put_wa, u1, u2, hn8] at r46 ⊢
                refine e_iload_n (i := 3) 50 dX12_keyAt_49 rfl rfl rfl ?_
                refine e_iadd 51 dX12_keyAt_50 rfl ?_
                refine e_iald 52 dX12_keyAt_51 ar_931 (by omega) (by omega) rfl (fun r51 => ?_)
                simp (disch := omega) only [put_r6, put_w6, put_r7, put_w7, put_r9, put_w9, put_r10, put_w10, put_r11, put_w11, put_r12, put_w12, put_r13, put_w13, put_r14, put_w14, put_r15, put_w15, put_ra, put_r8, put_r0, put_rt, put_wa, u1, u2, hn8, Int.reduceAdd, Int.add_zero] at r51 ⊢
                refine e_ldcS 54 (i := 20) (by decide) rfl rfl dX12_keyAt_52 rfl ?_
                refine e_iload_n (i := 2) 55 dX12_keyAt_54 rfl rfl rfl ?_
                refine e_iload_n (i := 3) 56 dX12_keyAt_55 rfl rfl rfl ?_
                refine e_iadd 57 dX12_keyAt_56 rfl ?_
                refine e_callF (av := [jI _]) 60 (i := 20) (by decide) mt_yJ_charAt mv_yJ_charAt wd_1410 (by decide) dX12_keyAt_57 rfl rfl rfl (Nat.le_of_ble_eq_true rfl) (jroom (by decide)) rfl (c_charAt (i := 20) (k := 42) (z := 104) (by decide) (by decide) (by decide +kernel) ?_)
                dsimp only [jpush]
                (try simp (disch := omega) only [put_r6, put_w6, put_r7, put_w7, put_r9, put_w9, put_r10, put_w10, put_r11, put_w11, put_r12, put_w12, put_r13, put_w13, put_r14, put_w14, put_r15, put_w15, put_ra, put_r8, put_r0, put_rt, put_wa, u1, u2, hn8])
                refine e_icmp_ne 63 69 dX12_keyAt_60 (by omega) (by decide) (by decide) rfl (fun b60 => ?_) (fun b60 => ?_)
                · skip
                  refine e_ldcS 71 (i := 20) (by decide) rfl rfl dX12_keyAt_69 rfl ?_
                  refine e_iload_n (i := 2) 72 dX12_keyAt_71 rfl rfl rfl ?_
                  refine e_iload_n (i := 3) 73 dX12_keyAt_72 rfl rfl rfl ?_
                  refine e_iadd 74 dX12_keyAt_73 rfl ?_
                  refine e_callF (av := [jI _]) 77 (i := 20) (by decide) mt_yJ_charAt mv_yJ_charAt wd_1410 (by decide) dX12_keyAt_74 rfl rfl rfl (Nat.le_of_ble_eq_true rfl) (jroom (by decide)) rfl (c_charAt (i := 20) (k := 42) (z := 104) (by decide) (by decide) (by decide +kernel) ?_)
                  dsimp only [jpush]
                  (try simp (disch := omega) only [put_r6, put_w6, put_r7, put_w7, put_r9, put_w9, put_r10, put_w10, put_r11, put_w11, put_r12, put_w12, put_r13, put_w13, put_r14, put_w14, put_r15, put_w15, put_ra, put_r8, put_r0, put_rt, put_wa, u1, u2, hn8])
                  refine e_bipush 79 dX12_keyAt_77 (by decide) rfl ?_
                  refine e_icmp_ne 82 97 dX12_keyAt_79 (by decide) (by decide) (by decide) rfl (fun _ => ?_) (fun h => absurd h (by decide))
                  refine e_ls (ls2 := [(0, _), (1, _), (2, _)]) rfl ?_
                  refine sk_7 (kk_8 hT hp hb ?_)
                  rw [kx7, if_neg (fun q => by omega)] at h
                  exact h
                · skip
                  refine e_iinc (lsn := [(3, _), (0, _), (1, _), (2, _)]) 66 dX12_keyAt_63 rfl (by decide) rfl rfl ?_
                  refine e_goto 15 dX12_keyAt_66 (by decide) ?_
                  refine e_ldcS 17 (i := 20) (by decide) rfl rfl dX12_keyAt_15 rfl ?_
                  refine e_iload_n (i := 2) 18 dX12_keyAt_17 rfl rfl rfl ?_
                  refine e_iload_n (i := 3) 19 dX12_keyAt_18 rfl rfl rfl ?_
                  refine e_iadd 20 dX12_keyAt_19 rfl ?_
                  refine e_callF (av := [jI _]) 23 (i := 20) (by decide) mt_yJ_charAt mv_yJ_charAt wd_1410 (by decide) dX12_keyAt_20 rfl rfl rfl (Nat.le_of_ble_eq_true rfl) (jroom (by decide)) rfl (c_charAt (i := 20) (k := 43) (z := 32) (by decide) (by decide) (by decide +kernel) ?_)
                  dsimp only [jpush]
                  (try simp (disch := omega) only [put_r6, put_w6, put_r7, put_w7, put_r9, put_w9, put_r10, put_w10, put_r11, put_w11, put_r12, put_w12, put_r13, put_w13, put_r14, put_w14, put_r15, put_w15, put_ra, put_r8, put_r0, put_rt, put_wa, u1, u2, hn8])
                  refine e_bipush 25 dX12_keyAt_23 (by decide) rfl ?_
                  refine e_icmp_eq 28 69 dX12_keyAt_25 (by decide) (by decide) (by decide) rfl (fun _ => ?_) (fun h => absurd h (by decide))
                  refine e_ldcS 71 (i := 20) (by decide) rfl rfl dX12_keyAt_69 rfl ?_
                  refine e_iload_n (i := 2) 72 dX12_keyAt_71 rfl rfl rfl ?_
                  refine e_iload_n (i := 3) 73 dX12_keyAt_72 rfl rfl rfl ?_
                  refine e_iadd 74 dX12_keyAt_73 rfl ?_
                  refine e_callF (av := [jI _]) 77 (i := 20) (by decide) mt_yJ_charAt mv_yJ_charAt wd_1410 (by decide) dX12_keyAt_74 rfl rfl rfl (Nat.le_of_ble_eq_true rfl) (jroom (by decide)) rfl (c_charAt (i := 20) (k := 43) (z := 32) (by decide) (by decide) (by decide +kernel) ?_)
                  dsimp only [jpush]
                  (try simp (disch := omega) only [put_r6, put_w6, put_r7, put_w7, put_r9, put_w9, put_r10, put_w10, put_r11, put_w11, put_r12, put_w12, put_r13, put_w13, put_r14, put_w14, put_r15, put_w15, put_ra, put_r8, put_r0, put_rt, put_wa, u1, u2, hn8])
                  refine e_bipush 79 dX12_keyAt_77 (by decide) rfl ?_
                  refine e_icmp_ne 82 97 dX12_keyAt_79 (by decide) (by decide) (by decide) rfl (fun h => absurd h (by decide)) (fun _ => ?_)
                  refine e_aload_n (i := 0) 83 dX12_keyAt_82 rfl rfl rfl ?_
                  refine e_geti (j := 6) 86 fl_12_97 dX12_keyAt_83 at_928 (by decide) rfl rfl (fun r83 => ?_)
                  simp (disch := omega) only [put_r6, put_w6, put_r7, put_w7, put_r9, put_w9, put_r10, put_w10, put_r11, put_w11, put_r12, put_w12, put_r13, put_w13, put_r14, put_w14, put_r15, put_w15, put_ra, put_r8, put_r0, put_rt, put_wa, u1, u2, hn8] at r83 ⊢
                  refine e_iload_n (i := 3) 87 dX12_keyAt_86 rfl rfl rfl ?_
                  refine e_iadd 88 dX12_keyAt_87 rfl ?_
                  refine e_aload_n (i := 0) 89 dX12_keyAt_88 rfl rfl rfl ?_
                  refine e_geti (j := 7) 92 fl_12_100 dX12_keyAt_89 at_928 (by decide) rfl rfl (fun r89 => ?_)
                  simp (disch := omega) only [put_r6, put_w6, put_r7, put_w7, put_r9, put_w9, put_r10, put_w10, put_r11, put_w11, put_r12, put_w12, put_r13, put_w13, put_r14, put_w14, put_r15, put_w15, put_ra, put_r8, put_r0, put_rt, put_wa, u1, u2, hn8] at r89 ⊢
                  refine e_icmp_ne 95 97 dX12_keyAt_92 (by omega) (by omega) (by decide) rfl (fun b92 => ?_) (fun b92 => ?_)
                  · skip
                    refine e_ls (ls2 := [(0, _), (1, _), (2, _)]) rfl ?_
                    refine sk_7 (kk_8 hT hp hb ?_)
                    rw [kx7, if_neg (fun q => by omega)] at h
                    exact h
                  · skip
                    refine e_iload_n (i := 1) 96 dX12_keyAt_95 rfl rfl rfl ?_
                    refine e_iret dX12_keyAt_96 ?_
                    rw [kx7, if_pos (by omega)] at h
                    exact h

theorem sk_6 {X : jX} {Y : jM} {Q : Int → jM → Prop} (h : jE X yX12_keyAt cX12_keyAt 4 (some .int) 5 Q Y 4 [(0, jR 928), (1, jI 7), (2, jI 39)] []) : jE X yX12_keyAt cX12_keyAt 4 (some .int) 5 Q Y 97 [(0, jR 928), (1, jI 6), (2, jI 34)] [] := by
  refine e_ldcS 99 (i := 20) (by decide) rfl rfl dX12_keyAt_97 rfl ?_
  refine e_iload_n (i := 2) 100 dX12_keyAt_99 rfl rfl rfl ?_
  refine e_callF (av := [jI _]) 103 (i := 20) (by decide) mt_yJ_charAt mv_yJ_charAt wd_1410 (by decide) dX12_keyAt_100 rfl rfl rfl (Nat.le_of_ble_eq_true rfl) (jroom (by decide)) rfl (c_charAt (i := 20) (k := 34) (z := 121) (by decide) (by decide) (by decide +kernel) ?_)
  dsimp only [jpush]
  refine e_bipush 105 dX12_keyAt_103 (by decide) rfl ?_
  refine e_icmp_eq 108 114 dX12_keyAt_105 (by decide) (by decide) (by decide) rfl (fun h => absurd h (by decide)) (fun _ => ?_)
  refine e_iinc (lsn := [(2, _), (0, _), (1, _)]) 111 dX12_keyAt_108 rfl (by decide) rfl rfl ?_
  refine e_goto 97 dX12_keyAt_111 (by decide) ?_
  refine e_ldcS 99 (i := 20) (by decide) rfl rfl dX12_keyAt_97 rfl ?_
  refine e_iload_n (i := 2) 100 dX12_keyAt_99 rfl rfl rfl ?_
  refine e_callF (av := [jI _]) 103 (i := 20) (by decide) mt_yJ_charAt mv_yJ_charAt wd_1410 (by decide) dX12_keyAt_100 rfl rfl rfl (Nat.le_of_ble_eq_true rfl) (jroom (by decide)) rfl (c_charAt (i := 20) (k := 35) (z := 101) (by decide) (by decide) (by decide +kernel) ?_)
  dsimp only [jpush]
  refine e_bipush 105 dX12_keyAt_103 (by decide) rfl ?_
  refine e_icmp_eq 108 114 dX12_keyAt_105 (by decide) (by decide) (by decide) rfl (fun h => absurd h (by decide)) (fun _ => ?_)
  refine e_iinc (lsn := [(2, _), (0, _), (1, _)]) 111 dX12_keyAt_108 rfl (by decide) rfl rfl ?_
  refine e_goto 97 dX12_keyAt_111 (by decide) ?_
  refine e_ldcS 99 (i := 20) (by decide) rfl rfl dX12_keyAt_97 rfl ?_
  refine e_iload_n (i := 2) 100 dX12_keyAt_99 rfl rfl rfl ?_
  refine e_callF (av := [jI _]) 103 (i := 20) (by decide) mt_yJ_charAt mv_yJ_charAt wd_1410 (by decide) dX12_keyAt_100 rfl rfl rfl (Nat.le_of_ble_eq_true rfl) (jroom (by decide)) rfl (c_charAt (i := 20) (k := 36) (z := 97) (by decide) (by decide) (by decide +kernel) ?_)
  dsimp only [jpush]
  refine e_bipush 105 dX12_keyAt_103 (by decide) rfl ?_
  refine e_icmp_eq 108 114 dX12_keyAt_105 (by decide) (by decide) (by decide) rfl (fun h => absurd h (by decide)) (fun _ => ?_)
  refine e_iinc (lsn := [(2, _), (0, _), (1, _)]) 111 dX12_keyAt_108 rfl (by decide) rfl rfl ?_
  refine e_goto 97 dX12_keyAt_111 (by decide) ?_
  refine e_ldcS 99 (i := 20) (by decide) rfl rfl dX12_keyAt_97 rfl ?_
  refine e_iload_n (i := 2) 100 dX12_keyAt_99 rfl rfl rfl ?_
  refine e_callF (av := [jI _]) 103 (i := 20) (by decide) mt_yJ_charAt mv_yJ_charAt wd_1410 (by decide) dX12_keyAt_100 rfl rfl rfl (Nat.le_of_ble_eq_true rfl) (jroom (by decide)) rfl (c_charAt (i := 20) (k := 37) (z := 114) (by decide) (by decide) (by decide +kernel) ?_)
  dsimp only [jpush]
  refine e_bipush 105 dX12_keyAt_103 (by decide) rfl ?_
  refine e_icmp_eq 108 114 dX12_keyAt_105 (by decide) (by decide) (by decide) rfl (fun h => absurd h (by decide)) (fun _ => ?_)
  refine e_iinc (lsn := [(2, _), (0, _), (1, _)]) 111 dX12_keyAt_108 rfl (by decide) rfl rfl ?_
  refine e_goto 97 dX12_keyAt_111 (by decide) ?_
  refine e_ldcS 99 (i := 20) (by decide) rfl rfl dX12_keyAt_97 rfl ?_
  refine e_iload_n (i := 2) 100 dX12_keyAt_99 rfl rfl rfl ?_
  refine e_callF (av := [jI _]) 103 (i := 20) (by decide) mt_yJ_charAt mv_yJ_charAt wd_1410 (by decide) dX12_keyAt_100 rfl rfl rfl (Nat.le_of_ble_eq_true rfl) (jroom (by decide)) rfl (c_charAt (i := 20) (k := 38) (z := 32) (by decide) (by decide) (by decide +kernel) ?_)
  dsimp only [jpush]
  refine e_bipush 105 dX12_keyAt_103 (by decide) rfl ?_
  refine e_icmp_eq 108 114 dX12_keyAt_105 (by decide) (by decide) (by decide) rfl (fun _ => ?_) (fun h => absurd h (by decide))
  refine e_iinc (lsn := [(2, _), (0, _), (1, _)]) 117 dX12_keyAt_114 rfl (by decide) rfl rfl ?_
  refine e_iinc (lsn := [(1, _), (2, _), (0, _)]) 120 dX12_keyAt_117 rfl (by decide) rfl rfl ?_
  refine e_goto 4 dX12_keyAt_120 (by decide) ?_
  refine e_ls (ls2 := [(0, _), (1, _), (2, _)]) rfl ?_
  exact h

theorem kk_6 {X : jX} {M : jM} {n : Int} {Q : Int → jM → Prop} (hT : RT M n) {s : PS} (hp : 0 ≤ s.1) (hb : s.1 ≤ s.2.1 ∧ s.2.1 ≤ n) (h : Q (kx6 (M 931) s.1 s.2.1) (put M s)) : jE X yX12_keyAt cX12_keyAt 4 (some .int) 5 Q (put M s) 4 [(0, jR 928), (1, jI 6), (2, jI 34)] [] := by
  have hn8 := hT.1
  have hn := hT.2.1
  refine e_iload_n (i := 2) 5 dX12_keyAt_4 rfl rfl rfl ?_
  refine e_ldcS 7 (i := 20) (by decide) rfl rfl dX12_keyAt_5 rfl ?_
  refine e_callF (av := []) 10 (i := 20) (by decide) mt_yJ_len mv_yJ_len wd_1409 (by decide) dX12_keyAt_7 rfl rfl rfl (Nat.le_of_ble_eq_true rfl) (jroom (by decide)) rfl (c_strlen (i := 20) (z := 99) (by decide) (by decide) ?_)
  dsimp only [jpush]
  (try simp (disch := omega) only [put_r6, put_w6, put_r7, put_w7, put_r9, put_w9, put_r10, put_w10, put_r11, put_w11, put_r12, put_w12, put_r13, put_w13, put_r14, put_w14, put_r15, put_w15, put_ra, put_r8, put_r0, put_rt, put_wa, u1, u2, hn8])
  refine e_icmp_ge 13 123 dX12_keyAt_10 (by decide) (by decide) (by decide) rfl (fun h => absurd h (by decide)) (fun _ => ?_)
  refine e_iconst 14 dX12_keyAt_13 rfl ?_
  refine e_istore_n (i := 3) (lsn := [(3, _), (0, _), (1, _), (2, _)]) 15 dX12_keyAt_14 rfl (by decide) rfl rfl ?_
  refine e_ldcS 17 (i := 20) (by decide) rfl rfl dX12_keyAt_15 rfl ?_
  refine e_iload_n (i := 2) 18 dX12_keyAt_17 rfl rfl rfl ?_
  refine e_iload_n (i := 3) 19 dX12_keyAt_18 rfl rfl rfl ?_
  refine e_iadd 20 dX12_keyAt_19 rfl ?_
  refine e_callF (av := [jI _]) 23 (i := 20) (by decide) mt_yJ_charAt mv_yJ_charAt wd_1410 (by decide) dX12_keyAt_20 rfl rfl rfl (Nat.le_of_ble_eq_true rfl) (jroom (by decide)) rfl (c_charAt (i := 20) (k := 34) (z := 121) (by decide) (by decide) (by decide +kernel) ?_)
  dsimp only [jpush]
  (try simp (disch := omega) only [put_r6, put_w6, put_r7, put_w7, put_r9, put_w9, put_r10, put_w10, put_r11, put_w11, put_r12, put_w12, put_r13, put_w13, put_r14, put_w14, put_r15, put_w15, put_ra, put_r8, put_r0, put_rt, put_wa, u1, u2, hn8])
  refine e_bipush 25 dX12_keyAt_23 (by decide) rfl ?_
  refine e_icmp_eq 28 69 dX12_keyAt_25 (by decide) (by decide) (by decide) rfl (fun h => absurd h (by decide)) (fun _ => ?_)
  refine e_aload_n (i := 0) 29 dX12_keyAt_28 rfl rfl rfl ?_
  refine e_geti (j := 6) 32 fl_12_97 dX12_keyAt_29 at_928 (by decide) rfl rfl (fun r29 => ?_)
  simp (disch := omega) only [put_r6, put_w6, put_r7, put_w7, put_r9, put_w9, put_r10, put_w10, put_r11, put_w11, put_r12, put_w12, put_r13, put_w13, put_r14, put_w14, put_r15, put_w15, put_ra, put_r8, put_r0, put_rt, put_wa, u1, u2, hn8] at r29 ⊢
  refine e_iload_n (i := 3) 33 dX12_keyAt_32 rfl rfl rfl ?_
  refine e_iadd 34 dX12_keyAt_33 rfl ?_
  refine e_aload_n (i := 0) 35 dX12_keyAt_34 rfl rfl rfl ?_
  refine e_geti (j := 7) 38 fl_12_100 dX12_keyAt_35 at_928 (by decide) rfl rfl (fun r35 => ?_)
  simp (disch := omega) only [put_r6, put_w6, put_r7, put_w7, put_r9, put_w9, put_r10, put_w10, put_r11, put_w11, put_r12, put_w12, put_r13, put_w13, put_r14, put_w14, put_r15, put_w15, put_ra, put_r8, put_r0, put_rt, put_wa, u1, u2, hn8] at r35 ⊢
  refine e_icmp_ge 41 69 dX12_keyAt_38 (by omega) (by omega) (by decide) rfl (fun b38 => ?_) (fun b38 => ?_)
  · skip
    refine e_ldcS 71 (i := 20) (by decide) rfl rfl dX12_keyAt_69 rfl ?_
    refine e_iload_n (i := 2) 72 dX12_keyAt_71 rfl rfl rfl ?_
    refine e_iload_n (i := 3) 73 dX12_keyAt_72 rfl rfl rfl ?_
    refine e_iadd 74 dX12_keyAt_73 rfl ?_
    refine e_callF (av := [jI _]) 77 (i := 20) (by decide) mt_yJ_charAt mv_yJ_charAt wd_1410 (by decide) dX12_keyAt_74 rfl rfl rfl (Nat.le_of_ble_eq_true rfl) (jroom (by decide)) rfl (c_charAt (i := 20) (k := 34) (z := 121) (by decide) (by decide) (by decide +kernel) ?_)
    dsimp only [jpush]
    (try simp (disch := omega) only [put_r6, put_w6, put_r7, put_w7, put_r9, put_w9, put_r10, put_w10, put_r11, put_w11, put_r12, put_w12, put_r13, put_w13, put_r14, put_w14, put_r15, put_w15, put_ra, put_r8, put_r0, put_rt, put_wa, u1, u2, hn8])
    refine e_bipush 79 dX12_keyAt_77 (by decide) rfl ?_
    refine e_icmp_ne 82 97 dX12_keyAt_79 (by decide) (by decide) (by decide) rfl (fun _ => ?_) (fun h => absurd h (by decide))
    refine e_ls (ls2 := [(0, _), (1, _), (2, _)]) rfl ?_
    refine sk_6 (kk_7 hT hp hb ?_)
    rw [kx6, if_neg (fun q => by omega)] at h
    exact h
  · skip
    refine e_aload_n (i := 0) 42 dX12_keyAt_41 rfl rfl rfl ?_
    refine e_getr (j := 3) 45 fl_12_21 dX12_keyAt_42 at_928 rfl rfl tp_928_3 rfl ?_
    refine e_aload_n (i := 0) 46 dX12_keyAt_45 rfl rfl rfl ?_
    refine e_geti (j := 6) 49 fl_12_97 dX12_keyAt_46 at_928 (by decide) rfl rfl (fun r46 => ?_)
    simp (disch := omega) only [put_r6, put_w6, put_r7, put_w7, put_r9, put_w9, put_r10, put_w10, put_r11, put_w11, put_r12, put_w12, put_r13, put_w13, put_r14, put_w14, put_r15, put_w15, put_ra, put_r8, put_r0, put_rt, put_wa, u1, u2, hn8] at r46 ⊢
    refine e_iload_n (i := 3) 50 dX12_keyAt_49 rfl rfl rfl ?_
    refine e_iadd 51 dX12_keyAt_50 rfl ?_
    refine e_iald 52 dX12_keyAt_51 ar_931 (by omega) (by omega) rfl (fun r51 => ?_)
    simp (disch := omega) only [put_r6, put_w6, put_r7, put_w7, put_r9, put_w9, put_r10, put_w10, put_r11, put_w11, put_r12, put_w12, put_r13, put_w13, put_r14, put_w14, put_r15, put_w15, put_ra, put_r8, put_r0, put_rt, put_wa, u1, u2, hn8, Int.reduceAdd, Int.add_zero] at r51 ⊢
    refine e_ldcS 54 (i := 20) (by decide) rfl rfl dX12_keyAt_52 rfl ?_
    refine e_iload_n (i := 2) 55 dX12_keyAt_54 rfl rfl rfl ?_
    refine e_iload_n (i := 3) 56 dX12_keyAt_55 rfl rfl rfl ?_
    refine e_iadd 57 dX12_keyAt_56 rfl ?_
    refine e_callF (av := [jI _]) 60 (i := 20) (by decide) mt_yJ_charAt mv_yJ_charAt wd_1410 (by decide) dX12_keyAt_57 rfl rfl rfl (Nat.le_of_ble_eq_true rfl) (jroom (by decide)) rfl (c_charAt (i := 20) (k := 34) (z := 121) (by decide) (by decide) (by decide +kernel) ?_)
    dsimp only [jpush]
    (try simp (disch := omega) only [put_r6, put_w6, put_r7, put_w7, put_r9, put_w9, put_r10, put_w10, put_r11, put_w11, put_r12, put_w12, put_r13, put_w13, put_r14, put_w14, put_r15, put_w15, put_ra, put_r8, put_r0, put_rt, put_wa, u1, u2, hn8])
    refine e_icmp_ne 63 69 dX12_keyAt_60 (by omega) (by decide) (by decide) rfl (fun b60 => ?_) (fun b60 => ?_)
    · skip
      refine e_ldcS 71 (i := 20) (by decide) rfl rfl dX12_keyAt_69 rfl ?_
      refine e_iload_n (i := 2) 72 dX12_keyAt_71 rfl rfl rfl ?_
      refine e_iload_n (i := 3) 73 dX12_keyAt_72 rfl rfl rfl ?_
      refine e_iadd 74 dX12_keyAt_73 rfl ?_
      refine e_callF (av := [jI _]) 77 (i := 20) (by decide) mt_yJ_charAt mv_yJ_charAt wd_1410 (by decide) dX12_keyAt_74 rfl rfl rfl (Nat.le_of_ble_eq_true rfl) (jroom (by decide)) rfl (c_charAt (i := 20) (k := 34) (z := 121) (by decide) (by decide) (by decide +kernel) ?_)
      dsimp only [jpush]
      (try simp (disch := omega) only [put_r6, put_w6, put_r7, put_w7, put_r9, put_w9, put_r10, put_w10, put_r11, put_w11, put_r12, put_w12, put_r13, put_w13, put_r14, put_w14, put_r15, put_w15, put_ra, put_r8, put_r0, put_rt, put_wa, u1, u2, hn8])
      refine e_bipush 79 dX12_keyAt_77 (by decide) rfl ?_
      refine e_icmp_ne 82 97 dX12_keyAt_79 (by decide) (by decide) (by decide) rfl (fun _ => ?_) (fun h => absurd h (by decide))
      refine e_ls (ls2 := [(0, _), (1, _), (2, _)]) rfl ?_
      refine sk_6 (kk_7 hT hp hb ?_)
      rw [kx6, if_neg (fun q => by omega)] at h
      exact h
    · skip
      refine e_iinc (lsn := [(3, _), (0, _), (1, _), (2, _)]) 66 dX12_keyAt_63 rfl (by decide) rfl rfl ?_
      refine e_goto 15 dX12_keyAt_66 (by decide) ?_
      refine e_ldcS 17 (i := 20) (by decide) rfl rfl dX12_keyAt_15 rfl ?_
      refine e_iload_n (i := 2) 18 dX12_keyAt_17 rfl rfl rfl ?_
      refine e_iload_n (i := 3) 19 dX12_keyAt_18 rfl rfl rfl ?_
      refine e_iadd 20 dX12_keyAt_19 rfl ?_
      refine e_callF (av := [jI _]) 23 (i := 20) (by decide) mt_yJ_charAt mv_yJ_charAt wd_1410 (by decide) dX12_keyAt_20 rfl rfl rfl (Nat.le_of_ble_eq_true rfl) (jroom (by decide)) rfl (c_charAt (i := 20) (k := 35) (z := 101) (by decide) (by decide) (by decide +kernel) ?_)
      dsimp only [jpush]
      (try simp (disch := omega) only [put_r6, put_w6, put_r7, put_w7, put_r9, put_w9, put_r10, put_w10, put_r11, put_w11, put_r12, put_w12, put_r13, put_w13, put_r14, put_w14, put_r15, put_w15, put_ra, put_r8, put_r0, put_rt, put_wa, u1, u2, hn8])
      refine e_bipush 25 dX12_keyAt_23 (by decide) rfl ?_
      refine e_icmp_eq 28 69 dX12_keyAt_25 (by decide) (by decide) (by decide) rfl (fun h => absurd h (by decide)) (fun _ => ?_)
      refine e_aload_n (i := 0) 29 dX12_keyAt_28 rfl rfl rfl ?_
      refine e_geti (j := 6) 32 fl_12_97 dX12_keyAt_29 at_928 (by decide) rfl rfl (fun r29 => ?_)
      simp (disch := omega) only [put_r6, put_w6, put_r7, put_w7, put_r9, put_w9, put_r10, put_w10, put_r11, put_w11, put_r12, put_w12, put_r13, put_w13, put_r14, put_w14, put_r15, put_w15, put_ra, put_r8, put_r0, put_rt, put_wa, u1, u2, hn8] at r29 ⊢
      refine e_iload_n (i := 3) 33 dX12_keyAt_32 rfl rfl rfl ?_
      refine e_iadd 34 dX12_keyAt_33 rfl ?_
      refine e_aload_n (i := 0) 35 dX12_keyAt_34 rfl rfl rfl ?_
      refine e_geti (j := 7) 38 fl_12_100 dX12_keyAt_35 at_928 (by decide) rfl rfl (fun r35 => ?_)
      simp (disch := omega) only [put_r6, put_w6, put_r7, put_w7, put_r9, put_w9, put_r10, put_w10, put_r11, put_w11, put_r12, put_w12, put_r13, put_w13, put_r14, put_w14, put_r15, put_w15, put_ra, put_r8, put_r0, put_rt, put_wa, u1, u2, hn8] at r35 ⊢
      refine e_icmp_ge 41 69 dX12_keyAt_38 (by omega) (by omega) (by decide) rfl (fun b38 => ?_) (fun b38 => ?_)
      · skip
        refine e_ldcS 71 (i := 20) (by decide) rfl rfl dX12_keyAt_69 rfl ?_
        refine e_iload_n (i := 2) 72 dX12_keyAt_71 rfl rfl rfl ?_
        refine e_iload_n (i := 3) 73 dX12_keyAt_72 rfl rfl rfl ?_
        refine e_iadd 74 dX12_keyAt_73 rfl ?_
        refine e_callF (av := [jI _]) 77 (i := 20) (by decide) mt_yJ_charAt mv_yJ_charAt wd_1410 (by decide) dX12_keyAt_74 rfl rfl rfl (Nat.le_of_ble_eq_true rfl) (jroom (by decide)) rfl (c_charAt (i := 20) (k := 35) (z := 101) (by decide) (by decide) (by decide +kernel) ?_)
        dsimp only [jpush]
        (try simp (disch := omega) only [put_r6, put_w6, put_r7, put_w7, put_r9, put_w9, put_r10, put_w10, put_r11, put_w11, put_r12, put_w12, put_r13, put_w13, put_r14, put_w14, put_r15, put_w15, put_ra, put_r8, put_r0, put_rt, put_wa, u1, u2, hn8])
        refine e_bipush 79 dX12_keyAt_77 (by decide) rfl ?_
        refine e_icmp_ne 82 97 dX12_keyAt_79 (by decide) (by decide) (by decide) rfl (fun _ => ?_) (fun h => absurd h (by decide))
        refine e_ls (ls2 := [(0, _), (1, _), (2, _)]) rfl ?_
        refine sk_6 (kk_7 hT hp hb ?_)
        rw [kx6, if_neg (fun q => by omega)] at h
        exact h
      · skip
        refine e_aload_n (i := 0) 42 dX12_keyAt_41 rfl rfl rfl ?_
        refine e_getr (j := 3) 45 fl_12_21 dX12_keyAt_42 at_928 rfl rfl tp_928_3 rfl ?_
        refine e_aload_n (i := 0) 46 dX12_keyAt_45 rfl rfl rfl ?_
        refine e_geti (j := 6) 49 fl_12_97 dX12_keyAt_46 at_928 (by decide) rfl rfl (fun r46 => ?_)
        simp (disch := omega) only [put_r6, put_w6, put_r7, put_w7, put_r9, put_w9, put_r10, put_w10, put_r11, put_w11, put_r12, put_w12, put_r13, put_w13, put_r14, put_w14, put_r15, put_w15, put_ra, put_r8, put_r0, put_rt, put_wa, u1, u2, hn8] at r46 ⊢
        refine e_iload_n (i := 3) 50 dX12_keyAt_49 rfl rfl rfl ?_
        refine e_iadd 51 dX12_keyAt_50 rfl ?_
        refine e_iald 52 dX12_keyAt_51 ar_931 (by omega) (by omega) rfl (fun r51 => ?_)
        simp (disch := omega) only [put_r6, put_w6, put_r7, put_w7, put_r9, put_w9, put_r10, put_w10, put_r11, put_w11, put_r12, put_w12, put_r13, put_w13, put_r14, put_w14, put_r15, put_w15, put_ra, put_r8, put_r0, put_rt, put_wa, u1, u2, hn8, Int.reduceAdd, Int.add_zero] at r51 ⊢
        refine e_ldcS 54 (i := 20) (by decide) rfl rfl dX12_keyAt_52 rfl ?_
        refine e_iload_n (i := 2) 55 dX12_keyAt_54 rfl rfl rfl ?_
        refine e_iload_n (i := 3) 56 dX12_keyAt_55 rfl rfl rfl ?_
        refine e_iadd 57 dX12_keyAt_56 rfl ?_
        refine e_callF (av := [jI _]) 60 (i := 20) (by decide) mt_yJ_charAt mv_yJ_charAt wd_1410 (by decide) dX12_keyAt_57 rfl rfl rfl (Nat.le_of_ble_eq_true rfl) (jroom (by decide)) rfl (c_charAt (i := 20) (k := 35) (z := 101) (by decide) (by decide) (by decide +kernel) ?_)
        dsimp only [jpush]
        (try simp (disch := omega) only [put_r6, put_w6, put_r7, put_w7, put_r9, put_w9, put_r10, put_w10, put_r11, put_w11, put_r12, put_w12, put_r13, put_w13, put_r14, put_w14, put_r15, put_w15, put_ra, put_r8, put_r0, put_rt, put_wa, u1, u2, hn8])
        refine e_icmp_ne 63 69 dX12_keyAt_60 (by omega) (by decide) (by decide) rfl (fun b60 => ?_) (fun b60 => ?_)
        · skip
          refine e_ldcS 71 (i := 20) (by decide) rfl rfl dX12_keyAt_69 rfl ?_
          refine e_iload_n (i := 2) 72 dX12_keyAt_71 rfl rfl rfl ?_
          refine e_iload_n (i := 3) 73 dX12_keyAt_72 rfl rfl rfl ?_
          refine e_iadd 74 dX12_keyAt_73 rfl ?_
          refine e_callF (av := [jI _]) 77 (i := 20) (by decide) mt_yJ_charAt mv_yJ_charAt wd_1410 (by decide) dX12_keyAt_74 rfl rfl rfl (Nat.le_of_ble_eq_true rfl) (jroom (by decide)) rfl (c_charAt (i := 20) (k := 35) (z := 101) (by decide) (by decide) (by decide +kernel) ?_)
          dsimp only [jpush]
          (try simp (disch := omega) only [put_r6, put_w6, put_r7, put_w7, put_r9, put_w9, put_r10, put_w10, put_r11, put_w11, put_r12, put_w12, put_r13, put_w13, put_r14, put_w14, put_r15, put_w15, put_ra, put_r8, put_r0, put_rt, put_wa, u1, u2, hn8])
          refine e_bipush 79 dX12_keyAt_77 (by decide) rfl ?_
          refine e_icmp_ne 82 97 dX12_keyAt_79 (by decide) (by decide) (by decide) rfl (fun _ => ?_) (fun h => absurd h (by decide))
          refine e_ls (ls2 := [(0, _), (1, _), (2, _)]) rfl ?_
          refine sk_6 (kk_7 hT hp hb ?_)
          rw [kx6, if_neg (fun q => by omega)] at h
          exact h
        · skip
          refine e_iinc (lsn := [(3, _), (0, _), (1, _), (2, _)]) 66 dX12_keyAt_63 rfl (by decide) rfl rfl ?_
          refine e_goto 15 dX12_keyAt_66 (by decide) ?_
          refine e_ldcS 17 (i := 20) (by decide) rfl rfl dX12_keyAt_15 rfl ?_
          refine e_iload_n (i := 2) 18 dX12_keyAt_17 rfl rfl rfl ?_
          refine e_iload_n (i := 3) 19 dX12_keyAt_18 rfl rfl rfl ?_
          refine e_iadd 20 dX12_keyAt_19 rfl ?_
          refine e_callF (av := [jI _]) 23 (i := 20) (by decide) mt_yJ_charAt mv_yJ_charAt wd_1410 (by decide) dX12_keyAt_20 rfl rfl rfl (Nat.le_of_ble_eq_true rfl) (jroom (by decide)) rfl (c_charAt (i := 20) (k := 36) (z := 97) (by decide) (by decide) (by decide +kernel) ?_)
          dsimp only [jpush]
          (try simp (disch := omega) only [put_r6, put_w6, put_r7, put_w7, put_r9, put_w9, put_r10, put_w10, put_r11, put_w11, put_r12, put_w12, put_r13, put_w13, put_r14, put_w14, put_r15, put_w15, put_ra, put_r8, put_r0, put_rt, put_wa, u1, u2, hn8])
          refine e_bipush 25 dX12_keyAt_23 (by decide) rfl ?_
          refine e_icmp_eq 28 69 dX12_keyAt_25 (by decide) (by decide) (by decide) rfl (fun h => absurd h (by decide)) (fun _ => ?_)
          refine e_aload_n (i := 0) 29 dX12_keyAt_28 rfl rfl rfl ?_
          refine e_geti (j := 6) 32 fl_12_97 dX12_keyAt_29 at_928 (by decide) rfl rfl (fun r29 => ?_)
          simp (disch := omega) only [put_r6, put_w6, put_r7, put_w7, put_r9, put_w9, put_r10, put_w10, put_r11, put_w11, put_r12, put_w12, put_r13, put_w13, put_r14, put_w14, put_r15, put_w15, put_ra, put_r8, put_r0, put_rt, put_wa, u1, u2, hn8] at r29 ⊢
          refine e_iload_n (i := 3) 33 dX12_keyAt_32 rfl rfl rfl ?_
          refine e_iadd 34 dX12_keyAt_33 rfl ?_
          refine e_aload_n (i := 0) 35 dX12_keyAt_34 rfl rfl rfl ?_
          refine e_geti (j := 7) 38 fl_12_100 dX12_keyAt_35 at_928 (by decide) rfl rfl (fun r35 => ?_)
          simp (disch := omega) only [put_r6, put_w6, put_r7, put_w7, put_r9, put_w9, put_r10, put_w10, put_r11, put_w11, put_r12, put_w12, put_r13, put_w13, put_r14, put_w14, put_r15, put_w15, put_ra, put_r8, put_r0, put_rt, put_wa, u1, u2, hn8] at r35 ⊢
          refine e_icmp_ge 41 69 dX12_keyAt_38 (by omega) (by omega) (by decide) rfl (fun b38 => ?_) (fun b38 => ?_)
          · skip
            refine e_ldcS 71 (i := 20) (by decide) rfl rfl dX12_keyAt_69 rfl ?_
            refine e_iload_n (i := 2) 72 dX12_keyAt_71 rfl rfl rfl ?_
            refine e_iload_n (i := 3) 73 dX12_keyAt_72 rfl rfl rfl ?_
            refine e_iadd 74 dX12_keyAt_73 rfl ?_
            refine e_callF (av := [jI _]) 77 (i := 20) (by decide) mt_yJ_charAt mv_yJ_charAt wd_1410 (by decide) dX12_keyAt_74 rfl rfl rfl (Nat.le_of_ble_eq_true rfl) (jroom (by decide)) rfl (c_charAt (i := 20) (k := 36) (z := 97) (by decide) (by decide) (by decide +kernel) ?_)
            dsimp only [jpush]
            (try simp (disch := omega) only [put_r6, put_w6, put_r7, put_w7, put_r9, put_w9, put_r10, put_w10, put_r11, put_w11, put_r12, put_w12, put_r13, put_w13, put_r14, put_w14, put_r15, put_w15, put_ra, put_r8, put_r0, put_rt, put_wa, u1, u2, hn8])
            refine e_bipush 79 dX12_keyAt_77 (by decide) rfl ?_
            refine e_icmp_ne 82 97 dX12_keyAt_79 (by decide) (by decide) (by decide) rfl (fun _ => ?_) (fun h => absurd h (by decide))
            refine e_ls (ls2 := [(0, _), (1, _), (2, _)]) rfl ?_
            refine sk_6 (kk_7 hT hp hb ?_)
            rw [kx6, if_neg (fun q => by omega)] at h
            exact h
          · skip
            refine e_aload_n (i := 0) 42 dX12_keyAt_41 rfl rfl rfl ?_
            refine e_getr (j := 3) 45 fl_12_21 dX12_keyAt_42 at_928 rfl rfl tp_928_3 rfl ?_
            refine e_aload_n (i := 0) 46 dX12_keyAt_45 rfl rfl rfl ?_
            refine e_geti (j := 6) 49 fl_12_97 dX12_keyAt_46 at_928 (by decide) rfl rfl (fun r46 => ?_)
            simp (disch := omega) only [put_r6, put_w6, put_r7, put_w7, put_r9, put_w9, put_r10, put_w10, put_r11, put_w11, put_r12, put_w12, put_r13, put_w13, put_r14, put_w14, put_r15, put_w15, put_ra, put_r8, put_r0, put_rt, put_wa, u1, u2, hn8] at r46 ⊢
            refine e_iload_n (i := 3) 50 dX12_keyAt_49 rfl rfl rfl ?_
            refine e_iadd 51 dX12_keyAt_50 rfl ?_
            refine e_iald 52 dX12_keyAt_51 ar_931 (by omega) (by omega) rfl (fun r51 => ?_)
            simp (disch := omega) only [put_r6, put_w6, put_r7, put_w7, put_r9, put_w9, put_r10, put_w10, put_r11, put_w11, put_r12, put_w12, put_r13, put_w13, put_r14, put_w14, put_r15, put_w15, put_ra, put_r8, put_r0, put_rt, put_wa, u1, u2, hn8, Int.reduceAdd, Int.add_zero] at r51 ⊢
            refine e_ldcS 54 (i := 20) (by decide) rfl rfl dX12_keyAt_52 rfl ?_
            refine e_iload_n (i := 2) 55 dX12_keyAt_54 rfl rfl rfl ?_
            refine e_iload_n (i := 3) 56 dX12_keyAt_55 rfl rfl rfl ?_
            refine e_iadd 57 dX12_keyAt_56 rfl ?_
            refine e_callF (av := [jI _]) 60 (i := 20) (by decide) mt_yJ_charAt mv_yJ_charAt wd_1410 (by decide) dX12_keyAt_57 rfl rfl rfl (Nat.le_of_ble_eq_true rfl) (jroom (by decide)) rfl (c_charAt (i := 20) (k := 36) (z := 97) (by decide) (by decide) (by decide +kernel) ?_)
            dsimp only [jpush]
            (try simp (disch := omega) only [put_r6, put_w6, put_r7, put_w7, put_r9, put_w9, put_r10, put_w10, put_r11, put_w11, put_r12, put_w12, put_r13, put_w13, put_r14, put_w14, put_r15, put_w15, put_ra, put_r8, put_r0, put_rt, put_wa, u1, u2, hn8])
            refine e_icmp_ne 63 69 dX12_keyAt_60 (by omega) (by decide) (by decide) rfl (fun b60 => ?_) (fun b60 => ?_)
            · skip
              refine e_ldcS 71 (i := 20) (by decide) rfl rfl dX12_keyAt_69 rfl ?_
              refine e_iload_n (i := 2) 72 dX12_keyAt_71 rfl rfl rfl ?_
              refine e_iload_n (i := 3) 73 dX12_keyAt_72 rfl rfl rfl ?_
              refine e_iadd 74 dX12_keyAt_73 rfl ?_
              refine e_callF (av := [jI _]) 77 (i := 20) (by decide) mt_yJ_charAt mv_yJ_charAt wd_1410 (by decide) dX12_keyAt_74 rfl rfl rfl (Nat.le_of_ble_eq_true rfl) (jroom (by decide)) rfl (c_charAt (i := 20) (k := 36) (z := 97) (by decide) (by decide) (by decide +kernel) ?_)
              dsimp only [jpush]
              (try simp (disch := omega) only [put_r6, put_w6, put_r7, put_w7, put_r9, put_w9, put_r10, put_w10, put_r11, put_w11, put_r12, put_w12, put_r13, put_w13, put_r14, put_w14, put_r15, put_w15, put_ra, put_r8, put_r0, put_rt, put_wa, u1, u2, hn8])
              refine e_bipush 79 dX12_keyAt_77 (by decide) rfl ?_
              refine e_icmp_ne 82 97 dX12_keyAt_79 (by decide) (by decide) (by decide) rfl (fun _ => ?_) (fun h => absurd h (by decide))
              refine e_ls (ls2 := [(0, _), (1, _), (2, _)]) rfl ?_
              refine sk_6 (kk_7 hT hp hb ?_)
              rw [kx6, if_neg (fun q => by omega)] at h
              exact h
            · skip
              refine e_iinc (lsn := [(3, _), (0, _), (1, _), (2, _)]) 66 dX12_keyAt_63 rfl (by decide) rfl rfl ?_
              refine e_goto 15 dX12_keyAt_66 (by decide) ?_
              refine e_ldcS 17 (i := 20) (by decide) rfl rfl dX12_keyAt_15 rfl ?_
              refine e_iload_n (i := 2) 18 dX12_keyAt_17 rfl rfl rfl ?_
              refine e_iload_n (i := 3) 19 dX12_keyAt_18 rfl rfl rfl ?_
              refine e_iadd 20 dX12_keyAt_19 rfl ?_
              refine e_callF (av := [jI _]) 23 (i := 20) (by decide) mt_yJ_charAt mv_yJ_charAt wd_1410 (by decide) dX12_keyAt_20 rfl rfl rfl (Nat.le_of_ble_eq_true rfl) (jroom (by decide)) rfl (c_charAt (i := 20) (k := 37) (z := 114) (by decide) (by decide) (by decide +kernel) ?_)
              dsimp only [jpush]
              (try simp (disch := omega) only [put_r6, put_w6, put_r7, put_w7, put_r9, put_w9, put_r10, put_w10, put_r11, put_w11, put_r12, put_w12, put_r13, put_w13, put_r14, put_w14, put_r15, put_w15, put_ra, put_r8, put_r0, put_rt, put_wa, u1, u2, hn8])
              refine e_bipush 25 dX12_keyAt_23 (by decide) rfl ?_
              refine e_icmp_eq 28 69 dX12_keyAt_25 (by decide) (by decide) (by decide) rfl (fun h => absurd h (by decide)) (fun _ => ?_)
              refine e_aload_n (i := 0) 29 dX12_keyAt_28 rfl rfl rfl ?_
              refine e_geti (j := 6) 32 fl_12_97 dX12_keyAt_29 at_928 (by decide) rfl rfl (fun r29 => ?_)
              simp (disch := omega) only [put_r6, put_w6, put_r7, put_w7, put_r9, put_w9, put_r10, put_w10, put_r11, put_w11, put_r12, put_w12, put_r13, put_w13, put_r14, put_w14, put_r15, put_w15, put_ra, put_r8, put_r0, put_rt, put_wa, u1, u2, hn8] at r29 ⊢
              refine e_iload_n (i := 3) 33 dX12_keyAt_32 rfl rfl rfl ?_
              refine e_iadd 34 dX12_keyAt_33 rfl ?_
              refine e_aload_n (i := 0) 35 dX12_keyAt_34 rfl rfl rfl ?_
              refine e_geti (j := 7) 38 fl_12_100 dX12_keyAt_35 at_928 (by decide) rfl rfl (fun r35 => ?_)
              simp (disch := omega) only [put_r6, put_w6, put_r7, put_w7, put_r9, put_w9, put_r10, put_w10, put_r11, put_w11, put_r12, put_w12, put_r13, put_w13, put_r14, put_w14, put_r15, put_w15, put_ra, put_r8, put_r0, put_rt, put_wa, u1, u2, hn8] at r35 ⊢
              refine e_icmp_ge 41 69 dX12_keyAt_38 (by omega) (by omega) (by decide) rfl (fun b38 => ?_) (fun b38 => ?_)
              · skip
                refine e_ldcS 71 (i := 20) (by decide) rfl rfl dX12_keyAt_69 rfl ?_
                refine e_iload_n (i := 2) 72 dX12_keyAt_71 rfl rfl rfl ?_
                refine e_iload_n (i := 3) 73 dX12_keyAt_72 rfl rfl rfl ?_
                refine e_iadd 74 dX12_keyAt_73 rfl ?_
                refine e_callF (av := [jI _]) 77 (i := 20) (by decide) mt_yJ_charAt mv_yJ_charAt wd_1410 (by decide) dX12_keyAt_74 rfl rfl rfl (Nat.le_of_ble_eq_true rfl) (jroom (by decide)) rfl (c_charAt (i := 20) (k := 37) (z := 114) (by decide) (by decide) (by decide +kernel) ?_)
                dsimp only [jpush]
                (try simp (disch := omega) only [put_r6, put_w6, put_r7, put_w7, put_r9, put_w9, put_r10, put_w10, put_r11, put_w11, put_r12, put_w12, put_r13, put_w13, put_r14, put_w14, put_r15, put_w15, put_ra, put_r8, put_r0, put_rt, put_wa, u1, u2, hn8])
                refine e_bipush 79 dX12_keyAt_77 (by decide) rfl ?_
                refine e_icmp_ne 82 97 dX12_keyAt_79 (by decide) (by decide) (by decide) rfl (fun _ => ?_) (fun h => absurd h (by decide))
                refine e_ls (ls2 := [(0, _), (1, _), (2, _)]) rfl ?_
                refine sk_6 (kk_7 hT hp hb ?_)
                rw [kx6, if_neg (fun q => by omega)] at h
                exact h
              · skip
                refine e_aload_n (i := 0) 42 dX12_keyAt_41 rfl rfl rfl ?_
                refine e_getr (j := 3) 45 fl_12_21 dX12_keyAt_42 at_928 rfl rfl tp_928_3 rfl ?_
                refine e_aload_n (i := 0) 46 dX12_keyAt_45 rfl rfl rfl ?_
                refine e_geti (j := 6) 49 fl_12_97 dX12_keyAt_46 at_928 (by decide) rfl rfl (fun r46 => ?_)
                simp (disch := omega) only [put_r6, put_w6, put_r7, put_w7, put_r9, put_w9, put_r10, put_w10, put_r11, put_w11, put_r12, put_w12, put_r13, put_w13, put_r14, put_w14, put_r15, put_w15, put_ra, put_r8, put_r0, put_rt, put_wa, u1, u2, hn8] at r46 ⊢
                refine e_iload_n (i := 3) 50 dX12_keyAt_49 rfl rfl rfl ?_
                refine e_iadd 51 dX12_keyAt_50 rfl ?_
                refine e_iald 52 dX12_keyAt_51 ar_931 (by omega) (by omega) rfl (fun r51 => ?_)
                simp (disch := omega) only [put_r6, put_w6, put_r7, put_w7, put_r9, put_w9, put_r10, put_w10, put_r11, put_w11, put_r12, put_w12, put_r13, put_w13, put_r14, put_w14, put_r15, put_w15, put_ra, put_r8, put_r0, put_rt, put_wa, u1, u2, hn8, Int.reduceAdd, Int.add_zero] at r51 ⊢
                refine e_ldcS 54 (i := 20) (by decide) rfl rfl dX12_keyAt_52 rfl ?_
                refine e_iload_n (i := 2) 55 dX12_keyAt_54 rfl rfl rfl ?_
                refine e_iload_n (i := 3) 56 dX12_keyAt_55 rfl rfl rfl ?_
                refine e_iadd 57 dX12_keyAt_56 rfl ?_
                refine e_callF (av := [jI _]) 60 (i := 20) (by decide) mt_yJ_charAt mv_yJ_charAt wd_1410 (by decide) dX12_keyAt_57 rfl rfl rfl (Nat.le_of_ble_eq_true rfl) (jroom (by decide)) rfl (c_charAt (i := 20) (k := 37) (z := 114) (by decide) (by decide) (by decide +kernel) ?_)
                dsimp only [jpush]
                (try simp (disch := omega) only [put_r6, put_w6, put_r7, put_w7, put_r9, put_w9, put_r10, put_w10, put_r11, put_w11, put_r12, put_w12, put_r13, put_w13, put_r14, put_w14, put_r15, put_w15, put_ra, put_r8, put_r0, put_rt, put_wa, u1, u2, hn8])
                refine e_icmp_ne 63 69 dX12_keyAt_60 (by omega) (by decide) (by decide) rfl (fun b60 => ?_) (fun b60 => ?_)
                · skip
                  refine e_ldcS 71 (i := 20) (by decide) rfl rfl dX12_keyAt_69 rfl ?_
                  refine e_iload_n (i := 2) 72 dX12_keyAt_71 rfl rfl rfl ?_
                  refine e_iload_n (i := 3) 73 dX12_keyAt_72 rfl rfl rfl ?_
                  refine e_iadd 74 dX12_keyAt_73 rfl ?_
                  refine e_callF (av := [jI _]) 77 (i := 20) (by decide) mt_yJ_charAt mv_yJ_charAt wd_1410 (by decide) dX12_keyAt_74 rfl rfl rfl (Nat.le_of_ble_eq_true rfl) (jroom (by decide)) rfl (c_charAt (i := 20) (k := 37) (z := 114) (by decide) (by decide) (by decide +kernel) ?_)
                  dsimp only [jpush]
                  (try simp (disch := omega) only [put_r6, put_w6, put_r7, put_w7, put_r9, put_w9, put_r10, put_w10, put_r11, put_w11, put_r12, put_w12, put_r13, put_w13, put_r14, put_w14, put_r15, put_w15, put_ra, put_r8, put_r0, put_rt, put_wa, u1, u2, hn8])
                  refine e_bipush 79 dX12_keyAt_77 (by decide) rfl ?_
                  refine e_icmp_ne 82 97 dX12_keyAt_79 (by decide) (by decide) (by decide) rfl (fun _ => ?_) (fun h => absurd h (by decide))
                  refine e_ls (ls2 := [(0, _), (1, _), (2, _)]) rfl ?_
                  refine sk_6 (kk_7 hT hp hb ?_)
                  rw [kx6, if_neg (fun q => by omega)] at h
                  exact h
                · skip
                  refine e_iinc (lsn := [(3, _), (0, _), (1, _), (2, _)]) 66 dX12_keyAt_63 rfl (by decide) rfl rfl ?_
                  refine e_goto 15 dX12_keyAt_66 (by decide) ?_
                  refine e_ldcS 17 (i := 20) (by decide) rfl rfl dX12_keyAt_15 rfl ?_
                  refine e_iload_n (i := 2) 18 dX12_keyAt_17 rfl rfl rfl ?_
                  refine e_iload_n (i := 3) 19 dX12_keyAt_18 rfl rfl rfl ?_
                  refine e_iadd 20 dX12_keyAt_19 rfl ?_
                  refine e_callF (av := [jI _]) 23 (i := 20) (by decide) mt_yJ_charAt mv_yJ_charAt wd_1410 (by decide) dX12_keyAt_20 rfl rfl rfl (Nat.le_of_ble_eq_true rfl) (jroom (by decide)) rfl (c_charAt (i := 20) (k := 38) (z := 32) (by decide) (by decide) (by decide +kernel) ?_)
                  dsimp only [jpush]
                  (try simp (disch := omega) only [put_r6, put_w6, put_r7, put_w7, put_r9, put_w9, put_r10, put_w10, put_r11, put_w11, put_r12, put_w12, put_r13, put_w13, put_r14, put_w14, put_r15, put_w15, put_ra, put_r8, put_r0, put_rt, put_wa, u1, u2, hn8])
                  refine e_bipush 25 dX12_keyAt_23 (by decide) rfl ?_
                  refine e_icmp_eq 28 69 dX12_keyAt_25 (by decide) (by decide) (by decide) rfl (fun _ => ?_) (fun h => absurd h (by decide))
                  refine e_ldcS 71 (i := 20) (by decide) rfl rfl dX12_keyAt_69 rfl ?_
                  refine e_iload_n (i := 2) 72 dX12_keyAt_71 rfl rfl rfl ?_
                  refine e_iload_n (i := 3) 73 dX12_keyAt_72 rfl rfl rfl ?_
                  refine e_iadd 74 dX12_keyAt_73 rfl ?_
                  refine e_callF (av := [jI _]) 77 (i := 20) (by decide) mt_yJ_charAt mv_yJ_charAt wd_1410 (by decide) dX12_keyAt_74 rfl rfl rfl (Nat.le_of_ble_eq_true rfl) (jroom (by decide)) rfl (c_charAt (i := 20) (k := 38) (z := 32) (by decide) (by decide) (by decide +kernel) ?_)
                  dsimp only [jpush]
                  (try simp (disch := omega) only [put_r6, put_w6, put_r7, put_w7, put_r9, put_w9, put_r10, put_w10, put_r11, put_w11, put_r12, put_w12, put_r13, put_w13, put_r14, put_w14, put_r15, put_w15, put_ra, put_r8, put_r0, put_rt, put_wa, u1, u2, hn8])
                  refine e_bipush 79 dX12_keyAt_77 (by decide) rfl ?_
                  refine e_icmp_ne 82 97 dX12_keyAt_79 (by decide) (by decide) (by decide) rfl (fun h => absurd h (by decide)) (fun _ => ?_)
                  refine e_aload_n (i := 0) 83 dX12_keyAt_82 rfl rfl rfl ?_
                  refine e_geti (j := 6) 86 fl_12_97 dX12_keyAt_83 at_928 (by decide) rfl rfl (fun r83 => ?_)
                  simp (disch := omega) only [put_r6, put_w6, put_r7, put_w7, put_r9, put_w9, put_r10, put_w10, put_r11, put_w11, put_r12, put_w12, put_r13, put_w13, put_r14, put_w14, put_r15, put_w15, put_ra, put_r8, put_r0, put_rt, put_wa, u1, u2, hn8] at r83 ⊢
                  refine e_iload_n (i := 3) 87 dX12_keyAt_86 rfl rfl rfl ?_
                  refine e_iadd 88 dX12_keyAt_87 rfl ?_
                  refine e_aload_n (i := 0) 89 dX12_keyAt_88 rfl rfl rfl ?_
                  refine e_geti (j := 7) 92 fl_12_100 dX12_keyAt_89 at_928 (by decide) rfl rfl (fun r89 => ?_)
                  simp (disch := omega) only [put_r6, put_w6, put_r7, put_w7, put_r9, put_w9, put_r10, put_w10, put_r11, put_w11, put_r12, put_w12, put_r13, put_w13, put_r14, put_w14, put_r15, put_w15, put_ra, put_r8, put_r0, put_rt, put_wa, u1, u2, hn8] at r89 ⊢
                  refine e_icmp_ne 95 97 dX12_keyAt_92 (by omega) (by omega) (by decide) rfl (fun b92 => ?_) (fun b92 => ?_)
                  · skip
                    refine e_ls (ls2 := [(0, _), (1, _), (2, _)]) rfl ?_
                    refine sk_6 (kk_7 hT hp hb ?_)
                    rw [kx6, if_neg (fun q => by omega)] at h
                    exact h
                  · skip
                    refine e_iload_n (i := 1) 96 dX12_keyAt_95 rfl rfl rfl ?_
                    refine e_iret dX12_keyAt_96 ?_
                    rw [kx6, if_pos (by omega)] at h
                    exact h

theorem sk_5 {X : jX} {Y : jM} {Q : Int → jM → Prop} (h : jE X yX12_keyAt cX12_keyAt 4 (some .int) 5 Q Y 4 [(0, jR 928), (1, jI 6), (2, jI 34)] []) : jE X yX12_keyAt cX12_keyAt 4 (some .int) 5 Q Y 97 [(0, jR 928), (1, jI 5), (2, jI 28)] [] := by
  refine e_ldcS 99 (i := 20) (by decide) rfl rfl dX12_keyAt_97 rfl ?_
  refine e_iload_n (i := 2) 100 dX12_keyAt_99 rfl rfl rfl ?_
  refine e_callF (av := [jI _]) 103 (i := 20) (by decide) mt_yJ_charAt mv_yJ_charAt wd_1410 (by decide) dX12_keyAt_100 rfl rfl rfl (Nat.le_of_ble_eq_true rfl) (jroom (by decide)) rfl (c_charAt (i := 20) (k := 28) (z := 115) (by decide) (by decide) (by decide +kernel) ?_)
  dsimp only [jpush]
  refine e_bipush 105 dX12_keyAt_103 (by decide) rfl ?_
  refine e_icmp_eq 108 114 dX12_keyAt_105 (by decide) (by decide) (by decide) rfl (fun h => absurd h (by decide)) (fun _ => ?_)
  refine e_iinc (lsn := [(2, _), (0, _), (1, _)]) 111 dX12_keyAt_108 rfl (by decide) rfl rfl ?_
  refine e_goto 97 dX12_keyAt_111 (by decide) ?_
  refine e_ldcS 99 (i := 20) (by decide) rfl rfl dX12_keyAt_97 rfl ?_
  refine e_iload_n (i := 2) 100 dX12_keyAt_99 rfl rfl rfl ?_
  refine e_callF (av := [jI _]) 103 (i := 20) (by decide) mt_yJ_charAt mv_yJ_charAt wd_1410 (by decide) dX12_keyAt_100 rfl rfl rfl (Nat.le_of_ble_eq_true rfl) (jroom (by decide)) rfl (c_charAt (i := 20) (k := 29) (z := 119) (by decide) (by decide) (by decide +kernel) ?_)
  dsimp only [jpush]
  refine e_bipush 105 dX12_keyAt_103 (by decide) rfl ?_
  refine e_icmp_eq 108 114 dX12_keyAt_105 (by decide) (by decide) (by decide) rfl (fun h => absurd h (by decide)) (fun _ => ?_)
  refine e_iinc (lsn := [(2, _), (0, _), (1, _)]) 111 dX12_keyAt_108 rfl (by decide) rfl rfl ?_
  refine e_goto 97 dX12_keyAt_111 (by decide) ?_
  refine e_ldcS 99 (i := 20) (by decide) rfl rfl dX12_keyAt_97 rfl ?_
  refine e_iload_n (i := 2) 100 dX12_keyAt_99 rfl rfl rfl ?_
  refine e_callF (av := [jI _]) 103 (i := 20) (by decide) mt_yJ_charAt mv_yJ_charAt wd_1410 (by decide) dX12_keyAt_100 rfl rfl rfl (Nat.le_of_ble_eq_true rfl) (jroom (by decide)) rfl (c_charAt (i := 20) (k := 30) (z := 111) (by decide) (by decide) (by decide +kernel) ?_)
  dsimp only [jpush]
  refine e_bipush 105 dX12_keyAt_103 (by decide) rfl ?_
  refine e_icmp_eq 108 114 dX12_keyAt_105 (by decide) (by decide) (by decide) rfl (fun h => absurd h (by decide)) (fun _ => ?_)
  refine e_iinc (lsn := [(2, _), (0, _), (1, _)]) 111 dX12_keyAt_108 rfl (by decide) rfl rfl ?_
  refine e_goto 97 dX12_keyAt_111 (by decide) ?_
  refine e_ldcS 99 (i := 20) (by decide) rfl rfl dX12_keyAt_97 rfl ?_
  refine e_iload_n (i := 2) 100 dX12_keyAt_99 rfl rfl rfl ?_
  refine e_callF (av := [jI _]) 103 (i := 20) (by decide) mt_yJ_charAt mv_yJ_charAt wd_1410 (by decide) dX12_keyAt_100 rfl rfl rfl (Nat.le_of_ble_eq_true rfl) (jroom (by decide)) rfl (c_charAt (i := 20) (k := 31) (z := 114) (by decide) (by decide) (by decide +kernel) ?_)
  dsimp only [jpush]
  refine e_bipush 105 dX12_keyAt_103 (by decide) rfl ?_
  refine e_icmp_eq 108 114 dX12_keyAt_105 (by decide) (by decide) (by decide) rfl (fun h => absurd h (by decide)) (fun _ => ?_)
  refine e_iinc (lsn := [(2, _), (0, _), (1, _)]) 111 dX12_keyAt_108 rfl (by decide) rfl rfl ?_
  refine e_goto 97 dX12_keyAt_111 (by decide) ?_
  refine e_ldcS 99 (i := 20) (by decide) rfl rfl dX12_keyAt_97 rfl ?_
  refine e_iload_n (i := 2) 100 dX12_keyAt_99 rfl rfl rfl ?_
  refine e_callF (av := [jI _]) 103 (i := 20) (by decide) mt_yJ_charAt mv_yJ_charAt wd_1410 (by decide) dX12_keyAt_100 rfl rfl rfl (Nat.le_of_ble_eq_true rfl) (jroom (by decide)) rfl (c_charAt (i := 20) (k := 32) (z := 110) (by decide) (by decide) (by decide +kernel) ?_)
  dsimp only [jpush]
  refine e_bipush 105 dX12_keyAt_103 (by decide) rfl ?_
  refine e_icmp_eq 108 114 dX12_keyAt_105 (by decide) (by decide) (by decide) rfl (fun h => absurd h (by decide)) (fun _ => ?_)
  refine e_iinc (lsn := [(2, _), (0, _), (1, _)]) 111 dX12_keyAt_108 rfl (by decide) rfl rfl ?_
  refine e_goto 97 dX12_keyAt_111 (by decide) ?_
  refine e_ldcS 99 (i := 20) (by decide) rfl rfl dX12_keyAt_97 rfl ?_
  refine e_iload_n (i := 2) 100 dX12_keyAt_99 rfl rfl rfl ?_
  refine e_callF (av := [jI _]) 103 (i := 20) (by decide) mt_yJ_charAt mv_yJ_charAt wd_1410 (by decide) dX12_keyAt_100 rfl rfl rfl (Nat.le_of_ble_eq_true rfl) (jroom (by decide)) rfl (c_charAt (i := 20) (k := 33) (z := 32) (by decide) (by decide) (by decide +kernel) ?_)
  dsimp only [jpush]
  refine e_bipush 105 dX12_keyAt_103 (by decide) rfl ?_
  refine e_icmp_eq 108 114 dX12_keyAt_105 (by decide) (by decide) (by decide) rfl (fun _ => ?_) (fun h => absurd h (by decide))
  refine e_iinc (lsn := [(2, _), (0, _), (1, _)]) 117 dX12_keyAt_114 rfl (by decide) rfl rfl ?_
  refine e_iinc (lsn := [(1, _), (2, _), (0, _)]) 120 dX12_keyAt_117 rfl (by decide) rfl rfl ?_
  refine e_goto 4 dX12_keyAt_120 (by decide) ?_
  refine e_ls (ls2 := [(0, _), (1, _), (2, _)]) rfl ?_
  exact h

theorem kk_5 {X : jX} {M : jM} {n : Int} {Q : Int → jM → Prop} (hT : RT M n) {s : PS} (hp : 0 ≤ s.1) (hb : s.1 ≤ s.2.1 ∧ s.2.1 ≤ n) (h : Q (kx5 (M 931) s.1 s.2.1) (put M s)) : jE X yX12_keyAt cX12_keyAt 4 (some .int) 5 Q (put M s) 4 [(0, jR 928), (1, jI 5), (2, jI 28)] [] := by
  have hn8 := hT.1
  have hn := hT.2.1
  refine e_iload_n (i := 2) 5 dX12_keyAt_4 rfl rfl rfl ?_
  refine e_ldcS 7 (i := 20) (by decide) rfl rfl dX12_keyAt_5 rfl ?_
  refine e_callF (av := []) 10 (i := 20) (by decide) mt_yJ_len mv_yJ_len wd_1409 (by decide) dX12_keyAt_7 rfl rfl rfl (Nat.le_of_ble_eq_true rfl) (jroom (by decide)) rfl (c_strlen (i := 20) (z := 99) (by decide) (by decide) ?_)
  dsimp only [jpush]
  (try simp (disch := omega) only [put_r6, put_w6, put_r7, put_w7, put_r9, put_w9, put_r10, put_w10, put_r11, put_w11, put_r12, put_w12, put_r13, put_w13, put_r14, put_w14, put_r15, put_w15, put_ra, put_r8, put_r0, put_rt, put_wa, u1, u2, hn8])
  refine e_icmp_ge 13 123 dX12_keyAt_10 (by decide) (by decide) (by decide) rfl (fun h => absurd h (by decide)) (fun _ => ?_)
  refine e_iconst 14 dX12_keyAt_13 rfl ?_
  refine e_istore_n (i := 3) (lsn := [(3, _), (0, _), (1, _), (2, _)]) 15 dX12_keyAt_14 rfl (by decide) rfl rfl ?_
  refine e_ldcS 17 (i := 20) (by decide) rfl rfl dX12_keyAt_15 rfl ?_
  refine e_iload_n (i := 2) 18 dX12_keyAt_17 rfl rfl rfl ?_
  refine e_iload_n (i := 3) 19 dX12_keyAt_18 rfl rfl rfl ?_
  refine e_iadd 20 dX12_keyAt_19 rfl ?_
  refine e_callF (av := [jI _]) 23 (i := 20) (by decide) mt_yJ_charAt mv_yJ_charAt wd_1410 (by decide) dX12_keyAt_20 rfl rfl rfl (Nat.le_of_ble_eq_true rfl) (jroom (by decide)) rfl (c_charAt (i := 20) (k := 28) (z := 115) (by decide) (by decide) (by decide +kernel) ?_)
  dsimp only [jpush]
  (try simp (disch := omega) only [put_r6, put_w6, put_r7, put_w7, put_r9, put_w9, put_r10, put_w10, put_r11, put_w11, put_r12, put_w12, put_r13, put_w13, put_r14, put_w14, put_r15, put_w15, put_ra, put_r8, put_r0, put_rt, put_wa, u1, u2, hn8])
  refine e_bipush 25 dX12_keyAt_23 (by decide) rfl ?_
  refine e_icmp_eq 28 69 dX12_keyAt_25 (by decide) (by decide) (by decide) rfl (fun h => absurd h (by decide)) (fun _ => ?_)
  refine e_aload_n (i := 0) 29 dX12_keyAt_28 rfl rfl rfl ?_
  refine e_geti (j := 6) 32 fl_12_97 dX12_keyAt_29 at_928 (by decide) rfl rfl (fun r29 => ?_)
  simp (disch := omega) only [put_r6, put_w6, put_r7, put_w7, put_r9, put_w9, put_r10, put_w10, put_r11, put_w11, put_r12, put_w12, put_r13, put_w13, put_r14, put_w14, put_r15, put_w15, put_ra, put_r8, put_r0, put_rt, put_wa, u1, u2, hn8] at r29 ⊢
  refine e_iload_n (i := 3) 33 dX12_keyAt_32 rfl rfl rfl ?_
  refine e_iadd 34 dX12_keyAt_33 rfl ?_
  refine e_aload_n (i := 0) 35 dX12_keyAt_34 rfl rfl rfl ?_
  refine e_geti (j := 7) 38 fl_12_100 dX12_keyAt_35 at_928 (by decide) rfl rfl (fun r35 => ?_)
  simp (disch := omega) only [put_r6, put_w6, put_r7, put_w7, put_r9, put_w9, put_r10, put_w10, put_r11, put_w11, put_r12, put_w12, put_r13, put_w13, put_r14, put_w14, put_r15, put_w15, put_ra, put_r8, put_r0, put_rt, put_wa, u1, u2, hn8] at r35 ⊢
  refine e_icmp_ge 41 69 dX12_keyAt_38 (by omega) (by omega) (by decide) rfl (fun b38 => ?_) (fun b38 => ?_)
  · skip
    refine e_ldcS 71 (i := 20) (by decide) rfl rfl dX12_keyAt_69 rfl ?_
    refine e_iload_n (i := 2) 72 dX12_keyAt_71 rfl rfl rfl ?_
    refine e_iload_n (i := 3) 73 dX12_keyAt_72 rfl rfl rfl ?_
    refine e_iadd 74 dX12_keyAt_73 rfl ?_
    refine e_callF (av := [jI _]) 77 (i := 20) (by decide) mt_yJ_charAt mv_yJ_charAt wd_1410 (by decide) dX12_keyAt_74 rfl rfl rfl (Nat.le_of_ble_eq_true rfl) (jroom (by decide)) rfl (c_charAt (i := 20) (k := 28) (z := 115) (by decide) (by decide) (by decide +kernel) ?_)
    dsimp only [jpush]
    (try simp (disch := omega) only [put_r6, put_w6, put_r7, put_w7, put_r9, put_w9, put_r10, put_w10, put_r11, put_w11, put_r12, put_w12, put_r13, put_w13, put_r14, put_w14, put_r15, put_w15, put_ra, put_r8, put_r0, put_rt, put_wa, u1, u2, hn8])
    refine e_bipush 79 dX12_keyAt_77 (by decide) rfl ?_
    refine e_icmp_ne 82 97 dX12_keyAt_79 (by decide) (by decide) (by decide) rfl (fun _ => ?_) (fun h => absurd h (by decide))
    refine e_ls (ls2 := [(0, _), (1, _), (2, _)]) rfl ?_
    refine sk_5 (kk_6 hT hp hb ?_)
    rw [kx5, if_neg (fun q => by omega)] at h
    exact h
  · skip
    refine e_aload_n (i := 0) 42 dX12_keyAt_41 rfl rfl rfl ?_
    refine e_getr (j := 3) 45 fl_12_21 dX12_keyAt_42 at_928 rfl rfl tp_928_3 rfl ?_
    refine e_aload_n (i := 0) 46 dX12_keyAt_45 rfl rfl rfl ?_
    refine e_geti (j := 6) 49 fl_12_97 dX12_keyAt_46 at_928 (by decide) rfl rfl (fun r46 => ?_)
    simp (disch := omega) only [put_r6, put_w6, put_r7, put_w7, put_r9, put_w9, put_r10, put_w10, put_r11, put_w11, put_r12, put_w12, put_r13, put_w13, put_r14, put_w14, put_r15, put_w15, put_ra, put_r8, put_r0, put_rt, put_wa, u1, u2, hn8] at r46 ⊢
    refine e_iload_n (i := 3) 50 dX12_keyAt_49 rfl rfl rfl ?_
    refine e_iadd 51 dX12_keyAt_50 rfl ?_
    refine e_iald 52 dX12_keyAt_51 ar_931 (by omega) (by omega) rfl (fun r51 => ?_)
    simp (disch := omega) only [put_r6, put_w6, put_r7, put_w7, put_r9, put_w9, put_r10, put_w10, put_r11, put_w11, put_r12, put_w12, put_r13, put_w13, put_r14, put_w14, put_r15, put_w15, put_ra, put_r8, put_r0, put_rt, put_wa, u1, u2, hn8, Int.reduceAdd, Int.add_zero] at r51 ⊢
    refine e_ldcS 54 (i := 20) (by decide) rfl rfl dX12_keyAt_52 rfl ?_
    refine e_iload_n (i := 2) 55 dX12_keyAt_54 rfl rfl rfl ?_
    refine e_iload_n (i := 3) 56 dX12_keyAt_55 rfl rfl rfl ?_
    refine e_iadd 57 dX12_keyAt_56 rfl ?_
    refine e_callF (av := [jI _]) 60 (i := 20) (by decide) mt_yJ_charAt mv_yJ_charAt wd_1410 (by decide) dX12_keyAt_57 rfl rfl rfl (Nat.le_of_ble_eq_true rfl) (jroom (by decide)) rfl (c_charAt (i := 20) (k := 28) (z := 115) (by decide) (by decide) (by decide +kernel) ?_)
    dsimp only [jpush]
    (try simp (disch := omega) only [put_r6, put_w6, put_r7, put_w7, put_r9, put_w9, put_r10, put_w10, put_r11, put_w11, put_r12, put_w12, put_r13, put_w13, put_r14, put_w14, put_r15, put_w15, put_ra, put_r8, put_r0, put_rt, put_wa, u1, u2, hn8])
    refine e_icmp_ne 63 69 dX12_keyAt_60 (by omega) (by decide) (by decide) rfl (fun b60 => ?_) (fun b60 => ?_)
    · skip
      refine e_ldcS 71 (i := 20) (by decide) rfl rfl dX12_keyAt_69 rfl ?_
      refine e_iload_n (i := 2) 72 dX12_keyAt_71 rfl rfl rfl ?_
      refine e_iload_n (i := 3) 73 dX12_keyAt_72 rfl rfl rfl ?_
      refine e_iadd 74 dX12_keyAt_73 rfl ?_
      refine e_callF (av := [jI _]) 77 (i := 20) (by decide) mt_yJ_charAt mv_yJ_charAt wd_1410 (by decide) dX12_keyAt_74 rfl rfl rfl (Nat.le_of_ble_eq_true rfl) (jroom (by decide)) rfl (c_charAt (i := 20) (k := 28) (z := 115) (by decide) (by decide) (by decide +kernel) ?_)
      dsimp only [jpush]
      (try simp (disch := omega) only [put_r6, put_w6, put_r7, put_w7, put_r9, put_w9, put_r10, put_w10, put_r11, put_w11, put_r12, put_w12, put_r13, put_w13, put_r14, put_w14, put_r15, put_w15, put_ra, put_r8, put_r0, put_rt, put_wa, u1, u2, hn8])
      refine e_bipush 79 dX12_keyAt_77 (by decide) rfl ?_
      refine e_icmp_ne 82 97 dX12_keyAt_79 (by decide) (by decide) (by decide) rfl (fun _ => ?_) (fun h => absurd h (by decide))
      refine e_ls (ls2 := [(0, _), (1, _), (2, _)]) rfl ?_
      refine sk_5 (kk_6 hT hp hb ?_)
      rw [kx5, if_neg (fun q => by omega)] at h
      exact h
    · skip
      refine e_iinc (lsn := [(3, _), (0, _), (1, _), (2, _)]) 66 dX12_keyAt_63 rfl (by decide) rfl rfl ?_
      refine e_goto 15 dX12_keyAt_66 (by decide) ?_
      refine e_ldcS 17 (i := 20) (by decide) rfl rfl dX12_keyAt_15 rfl ?_
      refine e_iload_n (i := 2) 18 dX12_keyAt_17 rfl rfl rfl ?_
      refine e_iload_n (i := 3) 19 dX12_keyAt_18 rfl rfl rfl ?_
      refine e_iadd 20 dX12_keyAt_19 rfl ?_
      refine e_callF (av := [jI _]) 23 (i := 20) (by decide) mt_yJ_charAt mv_yJ_charAt wd_1410 (by decide) dX12_keyAt_20 rfl rfl rfl (Nat.le_of_ble_eq_true rfl) (jroom (by decide)) rfl (c_charAt (i := 20) (k := 29) (z := 119) (by decide) (by decide) (by decide +kernel) ?_)
      dsimp only [jpush]
      (try simp (disch := omega) only [put_r6, put_w6, put_r7, put_w7, put_r9, put_w9, put_r10, put_w10, put_r11, put_w11, put_r12, put_w12, put_r13, put_w13, put_r14, put_w14, put_r15, put_w15, put_ra, put_r8, put_r0, put_rt, put_wa, u1, u2, hn8])
      refine e_bipush 25 dX12_keyAt_23 (by decide) rfl ?_
      refine e_icmp_eq 28 69 dX12_keyAt_25 (by decide) (by decide) (by decide) rfl (fun h => absurd h (by decide)) (fun _ => ?_)
      refine e_aload_n (i := 0) 29 dX12_keyAt_28 rfl rfl rfl ?_
      refine e_geti (j := 6) 32 fl_12_97 dX12_keyAt_29 at_928 (by decide) rfl rfl (fun r29 => ?_)
      simp (disch := omega) only [put_r6, put_w6, put_r7, put_w7, put_r9, put_w9, put_r10, put_w10, put_r11, put_w11, put_r12, put_w12, put_r13, put_w13, put_r14, put_w14, put_r15, put_w15, put_ra, put_r8, put_r0, put_rt, put_wa, u1, u2, hn8] at r29 ⊢
      refine e_iload_n (i := 3) 33 dX12_keyAt_32 rfl rfl rfl ?_
      refine e_iadd 34 dX12_keyAt_33 rfl ?_
      refine e_aload_n (i := 0) 35 dX12_keyAt_34 rfl rfl rfl ?_
      refine e_geti (j := 7) 38 fl_12_100 dX12_keyAt_35 at_928 (by decide) rfl rfl (fun r35 => ?_)
      simp (disch := omega) only [put_r6, put_w6, put_r7, put_w7, put_r9, put_w9, put_r10, put_w10, put_r11, put_w11, put_r12, put_w12, put_r13, put_w13, put_r14, put_w14, put_r15, put_w15, put_ra, put_r8, put_r0, put_rt, put_wa, u1, u2, hn8] at r35 ⊢
      refine e_icmp_ge 41 69 dX12_keyAt_38 (by omega) (by omega) (by decide) rfl (fun b38 => ?_) (fun b38 => ?_)
      · skip
        refine e_ldcS 71 (i := 20) (by decide) rfl rfl dX12_keyAt_69 rfl ?_
        refine e_iload_n (i := 2) 72 dX12_keyAt_71 rfl rfl rfl ?_
        refine e_iload_n (i := 3) 73 dX12_keyAt_72 rfl rfl rfl ?_
        refine e_iadd 74 dX12_keyAt_73 rfl ?_
        refine e_callF (av := [jI _]) 77 (i := 20) (by decide) mt_yJ_charAt mv_yJ_charAt wd_1410 (by decide) dX12_keyAt_74 rfl rfl rfl (Nat.le_of_ble_eq_true rfl) (jroom (by decide)) rfl (c_charAt (i := 20) (k := 29) (z := 119) (by decide) (by decide) (by decide +kernel) ?_)
        dsimp only [jpush]
        (try simp (disch := omega) only [put_r6, put_w6, put_r7, put_w7, put_r9, put_w9, put_r10, put_w10, put_r11, put_w11, put_r12, put_w12, put_r13, put_w13, put_r14, put_w14, put_r15, put_w15, put_ra, put_r8, put_r0, put_rt, put_wa, u1, u2, hn8])
        refine e_bipush 79 dX12_keyAt_77 (by decide) rfl ?_
        refine e_icmp_ne 82 97 dX12_keyAt_79 (by decide) (by decide) (by decide) rfl (fun _ => ?_) (fun h => absurd h (by decide))
        refine e_ls (ls2 := [(0, _), (1, _), (2, _)]) rfl ?_
        refine sk_5 (kk_6 hT hp hb ?_)
        rw [kx5, if_neg (fun q => by omega)] at h
        exact h
      · skip
        refine e_aload_n (i := 0) 42 dX12_keyAt_41 rfl rfl rfl ?_
        refine e_getr (j := 3) 45 fl_12_21 dX12_keyAt_42 at_928 rfl rfl tp_928_3 rfl ?_
        refine e_aload_n (i := 0) 46 dX12_keyAt_45 rfl rfl rfl ?_
        refine e_geti (j := 6) 49 fl_12_97 dX12_keyAt_46 at_928 (by decide) rfl rfl (fun r46 => ?_)
        simp (disch := omega) only [put_r6, put_w6, put_r7, put_w7, put_r9, put_w9, put_r10, put_w10, put_r11, put_w11, put_r12, put_w12, put_r13, put_w13, put_r14, put_w14, put_r15, put_w15, put_ra, put_r8, put_r0, put_rt, put_wa, u1, u2, hn8] at r46 ⊢
        refine e_iload_n (i := 3) 50 dX12_keyAt_49 rfl rfl rfl ?_
        refine e_iadd 51 dX12_keyAt_50 rfl ?_
        refine e_iald 52 dX12_keyAt_51 ar_931 (by omega) (by omega) rfl (fun r51 => ?_)
        simp (disch := omega) only [put_r6, put_w6, put_r7, put_w7, put_r9, put_w9, put_r10, put_w10, put_r11, put_w11, put_r12, put_w12, put_r13, put_w13, put_r14, put_w14, put_r15, put_w15, put_ra, put_r8, put_r0, put_rt, put_wa, u1, u2, hn8, Int.reduceAdd, Int.add_zero] at r51 ⊢
        refine e_ldcS 54 (i := 20) (by decide) rfl rfl dX12_keyAt_52 rfl ?_
        refine e_iload_n (i := 2) 55 dX12_keyAt_54 rfl rfl rfl ?_
        refine e_iload_n (i := 3) 56 dX12_keyAt_55 rfl rfl rfl ?_
        refine e_iadd 57 dX12_keyAt_56 rfl ?_
        refine e_callF (av := [jI _]) 60 (i := 20) (by decide) mt_yJ_charAt mv_yJ_charAt wd_1410 (by decide) dX12_keyAt_57 rfl rfl rfl (Nat.le_of_ble_eq_true rfl) (jroom (by decide)) rfl (c_charAt (i := 20) (k := 29) (z := 119) (by decide) (by decide) (by decide +kernel) ?_)
        dsimp only [jpush]
        (try simp (disch := omega) only [put_r6, put_w6, put_r7, put_w7, put_r9, put_w9, put_r10, put_w10, put_r11, put_w11, put_r12, put_w12, put_r13, put_w13, put_r14, put_w14, put_r15, put_w15, put_ra, put_r8, put_r0, put_rt, put_wa, u1, u2, hn8])
        refine e_icmp_ne 63 69 dX12_keyAt_60 (by omega) (by decide) (by decide) rfl (fun b60 => ?_) (fun b60 => ?_)
        · skip
          refine e_ldcS 71 (i := 20) (by decide) rfl rfl dX12_keyAt_69 rfl ?_
          refine e_iload_n (i := 2) 72 dX12_keyAt_71 rfl rfl rfl ?_
          refine e_iload_n (i := 3) 73 dX12_keyAt_72 rfl rfl rfl ?_
          refine e_iadd 74 dX12_keyAt_73 rfl ?_
          refine e_callF (av := [jI _]) 77 (i := 20) (by decide) mt_yJ_charAt mv_yJ_charAt wd_1410 (by decide) dX12_keyAt_74 rfl rfl rfl (Nat.le_of_ble_eq_true rfl) (jroom (by decide)) rfl (c_charAt (i := 20) (k := 29) (z := 119) (by decide) (by decide) (by decide +kernel) ?_)
          dsimp only [jpush]
          (try simp (disch := omega) only [put_r6, put_w6, put_r7, put_w7, put_r9, put_w9, put_r10, put_w10, put_r11, put_w11, put_r12, put_w12, put_r13, put_w13, put_r14, put_w14, put_r15, put_w15, put_ra, put_r8, put_r0, put_rt, put_wa, u1, u2, hn8])
          refine e_bipush 79 dX12_keyAt_77 (by decide) rfl ?_
          refine e_icmp_ne 82 97 dX12_keyAt_79 (by decide) (by decide) (by decide) rfl (fun _ => ?_) (fun h => absurd h (by decide))
          refine e_ls (ls2 := [(0, _), (1, _), (2, _)]) rfl ?_
          refine sk_5 (kk_6 hT hp hb ?_)
          rw [kx5, if_neg (fun q => by omega)] at h
          exact h
        · skip
          refine e_iinc (lsn := [(3, _), (0, _), (1, _), (2, _)]) 66 dX12_keyAt_63 rfl (by decide) rfl rfl ?_
          refine e_goto 15 dX12_keyAt_66 (by decide) ?_
          refine e_ldcS 17 (i := 20) (by decide) rfl rfl dX12_keyAt_15 rfl ?_
          refine e_iload_n (i := 2) 18 dX12_keyAt_17 rfl rfl rfl ?_
          refine e_iload_n (i := 3) 19 dX12_keyAt_18 rfl rfl rfl ?_
          refine e_iadd 20 dX12_keyAt_19 rfl ?_
          refine e_callF (av := [jI _]) 23 (i := 20) (by decide) mt_yJ_charAt mv_yJ_charAt wd_1410 (by decide) dX12_keyAt_20 rfl rfl rfl (Nat.le_of_ble_eq_true rfl) (jroom (by decide)) rfl (c_charAt (i := 20) (k := 30) (z := 111) (by decide) (by decide) (by decide +kernel) ?_)
          dsimp only [jpush]
          (try simp (disch := omega) only [put_r6, put_w6, put_r7, put_w7, put_r9, put_w9, put_r10, put_w10, put_r11, put_w11, put_r12, put_w12, put_r13, put_w13, put_r14, put_w14, put_r15, put_w15, put_ra, put_r8, put_r0, put_rt, put_wa, u1, u2, hn8])
          refine e_bipush 25 dX12_keyAt_23 (by decide) rfl ?_
          refine e_icmp_eq 28 69 dX12_keyAt_25 (by decide) (by decide) (by decide) rfl (fun h => absurd h (by decide)) (fun _ => ?_)
          refine e_aload_n (i := 0) 29 dX12_keyAt_28 rfl rfl rfl ?_
          refine e_geti (j := 6) 32 fl_12_97 dX12_keyAt_29 at_928 (by decide) rfl rfl (fun r29 => ?_)
          simp (disch := omega) only [put_r6, put_w6, put_r7, put_w7, put_r9, put_w9, put_r10, put_w10, put_r11, put_w11, put_r12, put_w12, put_r13, put_w13, put_r14, put_w14, put_r15, put_w15, put_ra, put_r8, put_r0, put_rt, put_wa, u1, u2, hn8] at r29 ⊢
          refine e_iload_n (i := 3) 33 dX12_keyAt_32 rfl rfl rfl ?_
          refine e_iadd 34 dX12_keyAt_33 rfl ?_
          refine e_aload_n (i := 0) 35 dX12_keyAt_34 rfl rfl rfl ?_
          refine e_geti (j := 7) 38 fl_12_100 dX12_keyAt_35 at_928 (by decide) rfl rfl (fun r35 => ?_)
          simp (disch := omega) only [put_r6, put_w6, put_r7, put_w7, put_r9, put_w9, put_r10, put_w10, put_r11, put_w11, put_r12, put_w12, put_r13, put_w13, put_r14, put_w14, put_r15, put_w15, put_ra, put_r8, put_r0, put_rt, put_wa, u1, u2, hn8] at r35 ⊢
          refine e_icmp_ge 41 69 dX12_keyAt_38 (by omega) (by omega) (by decide) rfl (fun b38 => ?_) (fun b38 => ?_)
          · skip
            refine e_ldcS 71 (i := 20) (by decide) rfl rfl dX12_keyAt_69 rfl ?_
            refine e_iload_n (i := 2) 72 dX12_keyAt_71 rfl rfl rfl ?_
            refine e_iload_n (i := 3) 73 dX12_keyAt_72 rfl rfl rfl ?_
            refine e_iadd 74 dX12_keyAt_73 rfl ?_
            refine e_callF (av := [jI _]) 77 (i := 20) (by decide) mt_yJ_charAt mv_yJ_charAt wd_1410 (by decide) dX12_keyAt_74 rfl rfl rfl (Nat.le_of_ble_eq_true rfl) (jroom (by decide)) rfl (c_charAt (i := 20) (k := 30) (z := 111) (by decide) (by decide) (by decide +kernel) ?_)
            dsimp only [jpush]
            (try simp (disch := omega) only [put_r6, put_w6, put_r7, put_w7, put_r9, put_w9, put_r10, put_w10, put_r11, put_w11, put_r12, put_w12, put_r13, put_w13, put_r14, put_w14, put_r15, put_w15, put_ra, put_r8, put_r0, put_rt, put_wa, u1, u2, hn8])
            refine e_bipush 79 dX12_keyAt_77 (by decide) rfl ?_
            refine e_icmp_ne 82 97 dX12_keyAt_79 (by decide) (by decide) (by decide) rfl (fun _ => ?_) (fun h => absurd h (by decide))
            refine e_ls (ls2 := [(0, _), (1, _), (2, _)]) rfl ?_
            refine sk_5 (kk_6 hT hp hb ?_)
            rw [kx5, if_neg (fun q => by omega)] at h
            exact h
          · skip
            refine e_aload_n (i := 0) 42 dX12_keyAt_41 rfl rfl rfl ?_
            refine e_getr (j := 3) 45 fl_12_21 dX12_keyAt_42 at_928 rfl rfl tp_928_3 rfl ?_
            refine e_aload_n (i := 0) 46 dX12_keyAt_45 rfl rfl rfl ?_
            refine e_geti (j := 6) 49 fl_12_97 dX12_keyAt_46 at_928 (by decide) rfl rfl (fun r46 => ?_)
            simp (disch := omega) only [put_r6, put_w6, put_r7, put_w7, put_r9, put_w9, put_r10, put_w10, put_r11, put_w11, put_r12, put_w12, put_r13, put_w13, put_r14, put_w14, put_r15, put_w15, put_ra, put_r8, put_r0, put_rt, put_wa, u1, u2, hn8] at r46 ⊢
            refine e_iload_n (i := 3) 50 dX12_keyAt_49 rfl rfl rfl ?_
            refine e_iadd 51 dX12_keyAt_50 rfl ?_
            refine e_iald 52 dX12_keyAt_51 ar_931 (by omega) (by omega) rfl (fun r51 => ?_)
            simp (disch := omega) only [put_r6, put_w6, put_r7, put_w7, put_r9, put_w9, put_r10, put_w10, put_r11, put_w11, put_r12, put_w12, put_r13, put_w13, put_r14, put_w14, put_r15, put_w15, put_ra, put_r8, put_r0, put_rt, put_wa, u1, u2, hn8, Int.reduceAdd, Int.add_zero] at r51 ⊢
            refine e_ldcS 54 (i := 20) (by decide) rfl rfl dX12_keyAt_52 rfl ?_
            refine e_iload_n (i := 2) 55 dX12_keyAt_54 rfl rfl rfl ?_
            refine e_iload_n (i := 3) 56 dX12_keyAt_55 rfl rfl rfl ?_
            refine e_iadd 57 dX12_keyAt_56 rfl ?_
            refine e_callF (av := [jI _]) 60 (i := 20) (by decide) mt_yJ_charAt mv_yJ_charAt wd_1410 (by decide) dX12_keyAt_57 rfl rfl rfl (Nat.le_of_ble_eq_true rfl) (jroom (by decide)) rfl (c_charAt (i := 20) (k := 30) (z := 111) (by decide) (by decide) (by decide +kernel) ?_)
            dsimp only [jpush]
            (try simp (disch := omega) only [put_r6, put_w6, put_r7, put_w7, put_r9, put_w9, put_r10, put_w10, put_r11, put_w11, put_r12, put_w12, put_r13, put_w13, put_r14, put_w14, put_r15, put_w15, put_ra, put_r8, put_r0, put_rt, put_wa, u1, u2, hn8])
            refine e_icmp_ne 63 69 dX12_keyAt_60 (by omega) (by decide) (by decide) rfl (fun b60 => ?_) (fun b60 => ?_)
            · skip
              refine e_ldcS 71 (i := 20) (by decide) rfl rfl dX12_keyAt_69 rfl ?_
              refine e_iload_n (i := 2) 72 dX12_keyAt_71 rfl rfl rfl ?_
              refine e_iload_n (i := 3) 73 dX12_keyAt_72 rfl rfl rfl ?_
              refine e_iadd 74 dX12_keyAt_73 rfl ?_
              refine e_callF (av := [jI _]) 77 (i := 20) (by decide) mt_yJ_charAt mv_yJ_charAt wd_1410 (by decide) dX12_keyAt_74 rfl rfl rfl (Nat.le_of_ble_eq_true rfl) (jroom (by decide)) rfl (c_charAt (i := 20) (k := 30) (z := 111) (by decide) (by decide) (by decide +kernel) ?_)
              dsimp only [jpush]
              (try simp (disch := omega) only [put_r6, put_w6, put_r7, put_w7, put_r9, put_w9, put_r10, put_w10, put_r11, put_w11, put_r12, put_w12, put_r13, put_w13, put_r14, put_w14, put_r15, put_w15, put_ra, put_r8, put_r0, put_rt, put_wa, u1, u2, hn8])
              refine e_bipush 79 dX12_keyAt_77 (by decide) rfl ?_
              refine e_icmp_ne 82 97 dX12_keyAt_79 (by decide) (by decide) (by decide) rfl (fun _ => ?_) (fun h => absurd h (by decide))
              refine e_ls (ls2 := [(0, _), (1, _), (2, _)]) rfl ?_
              refine sk_5 (kk_6 hT hp hb ?_)
              rw [kx5, if_neg (fun q => by omega)] at h
              exact h
            · skip
              refine e_iinc (lsn := [(3, _), (0, _), (1, _), (2, _)]) 66 dX12_keyAt_63 rfl (by decide) rfl rfl ?_
              refine e_goto 15 dX12_keyAt_66 (by decide) ?_
              refine e_ldcS 17 (i := 20) (by decide) rfl rfl dX12_keyAt_15 rfl ?_
              refine e_iload_n (i := 2) 18 dX12_keyAt_17 rfl rfl rfl ?_
              refine e_iload_n (i := 3) 19 dX12_keyAt_18 rfl rfl rfl ?_
              refine e_iadd 20 dX12_keyAt_19 rfl ?_
              refine e_callF (av := [jI _]) 23 (i := 20) (by decide) mt_yJ_charAt mv_yJ_charAt wd_1410 (by decide) dX12_keyAt_20 rfl rfl rfl (Nat.le_of_ble_eq_true rfl) (jroom (by decide)) rfl (c_charAt (i := 20) (k := 31) (z := 114) (by decide) (by decide) (by decide +kernel) ?_)
              dsimp only [jpush]
              (try simp (disch := omega) only [put_r6, put_w6, put_r7, put_w7, put_r9, put_w9, put_r10, put_w10, put_r11, put_w11, put_r12, put_w12, put_r13, put_w13, put_r14, put_w14, put_r15, put_w15, put_ra, put_r8, put_r0, put_rt, put_wa, u1, u2, hn8])
              refine e_bipush 25 dX12_keyAt_23 (by decide) rfl ?_
              refine e_icmp_eq 28 69 dX12_keyAt_25 (by decide) (by decide) (by decide) rfl (fun h => absurd h (by decide)) (fun _ => ?_)
              refine e_aload_n (i := 0) 29 dX12_keyAt_28 rfl rfl rfl ?_
              refine e_geti (j := 6) 32 fl_12_97 dX12_keyAt_29 at_928 (by decide) rfl rfl (fun r29 => ?_)
              simp (disch := omega) only [put_r6, put_w6, put_r7, put_w7, put_r9, put_w9, put_r10, put_w10, put_r11, put_w11, put_r12, put_w12, put_r13, put_w13, put_r14, put_w14, put_r15, put_w15, put_ra, put_r8, put_r0, put_rt, put_wa, u1, u2, hn8] at r29 ⊢
              refine e_iload_n (i := 3) 33 dX12_keyAt_32 rfl rfl rfl ?_
              refine e_iadd 34 dX12_keyAt_33 rfl ?_
              refine e_aload_n (i := 0) 35 dX12_keyAt_34 rfl rfl rfl ?_
              refine e_geti (j := 7) 38 fl_12_100 dX12_keyAt_35 at_928 (by decide) rfl rfl (fun r35 => ?_)
              simp (disch := omega) only [put_r6, put_w6, put_r7, put_w7, put_r9, put_w9, put_r10, put_w10, put_r11, put_w11, put_r12, put_w12, put_r13, put_w13, put_r14, put_w14, put_r15, put_w15, put_ra, put_r8, put_r0, put_rt, put_wa, u1, u2, hn8] at r35 ⊢
              refine e_icmp_ge 41 69 dX12_keyAt_38 (by omega) (by omega) (by decide) rfl (fun b38 => ?_) (fun b38 => ?_)
              · skip
                refine e_ldcS 71 (i := 20) (by decide) rfl rfl dX12_keyAt_69 rfl ?_
                refine e_iload_n (i := 2) 72 dX12_keyAt_71 rfl rfl rfl ?_
                refine e_iload_n (i := 3) 73 dX12_keyAt_72 rfl rfl rfl ?_
                refine e_iadd 74 dX12_keyAt_73 rfl ?_
                refine e_callF (av := [jI _]) 77 (i := 20) (by decide) mt_yJ_charAt mv_yJ_charAt wd_1410 (by decide) dX12_keyAt_74 rfl rfl rfl (Nat.le_of_ble_eq_true rfl) (jroom (by decide)) rfl (c_charAt (i := 20) (k := 31) (z := 114) (by decide) (by decide) (by decide +kernel) ?_)
                dsimp only [jpush]
                (try simp (disch := omega) only [put_r6, put_w6, put_r7, put_w7, put_r9, put_w9, put_r10, put_w10, put_r11, put_w11, put_r12, put_w12, put_r13, put_w13, put_r14, put_w14, put_r15, put_w15, put_ra, put_r8, put_r0, put_rt, put_wa, u1, u2, hn8])
                refine e_bipush 79 dX12_keyAt_77 (by decide) rfl ?_
                refine e_icmp_ne 82 97 dX12_keyAt_79 (by decide) (by decide) (by decide) rfl (fun _ => ?_) (fun h => absurd h (by decide))
                refine e_ls (ls2 := [(0, _), (1, _), (2, _)]) rfl ?_
                refine sk_5 (kk_6 hT hp hb ?_)
                rw [kx5, if_neg (fun q => by omega)] at h
                exact h
              · skip
                refine e_aload_n (i := 0) 42 dX12_keyAt_41 rfl rfl rfl ?_
                refine e_getr (j := 3) 45 fl_12_21 dX12_keyAt_42 at_928 rfl rfl tp_928_3 rfl ?_
                refine e_aload_n (i := 0) 46 dX12_keyAt_45 rfl rfl rfl ?_
                refine e_geti (j := 6) 49 fl_12_97 dX12_keyAt_46 at_928 (by decide) rfl rfl (fun r46 => ?_)
                simp (disch := omega) only [put_r6, put_w6, put_r7, put_w7, put_r9, put_w9, put_r10, put_w10, put_r11, put_w11, put_r12, put_w12, put_r13, put_w13, put_r14, put_w14, put_r15, put_w15, put_ra, put_r8, put_r0, put_rt, put_wa, u1, u2, hn8] at r46 ⊢
                refine e_iload_n (i := 3) 50 dX12_keyAt_49 rfl rfl rfl ?_
                refine e_iadd 51 dX12_keyAt_50 rfl ?_
                refine e_iald 52 dX12_keyAt_51 ar_931 (by omega) (by omega) rfl (fun r51 => ?_)
                simp (disch := omega) only [put_r6, put_w6, put_r7, put_w7, put_r9, put_w9, put_r10, put_w10, put_r11, put_w11, put_r12, put_w12, put_r13, put_w13, put_r14, put_w14, put_r15, put_w15, put_ra, put_r8, put_r0, put_rt, put_wa, u1, u2, hn8, Int.reduceAdd, Int.add_zero] at r51 ⊢
                refine e_ldcS 54 (i := 20) (by decide) rfl rfl dX12_keyAt_52 rfl ?_
                refine e_iload_n (i := 2) 55 dX12_keyAt_54 rfl rfl rfl ?_
                refine e_iload_n (i := 3) 56 dX12_keyAt_55 rfl rfl rfl ?_
                refine e_iadd 57 dX12_keyAt_56 rfl ?_
                refine e_callF (av := [jI _]) 60 (i := 20) (by decide) mt_yJ_charAt mv_yJ_charAt wd_1410 (by decide) dX12_keyAt_57 rfl rfl rfl (Nat.le_of_ble_eq_true rfl) (jroom (by decide)) rfl (c_charAt (i := 20) (k := 31) (z := 114) (by decide) (by decide) (by decide +kernel) ?_)
                dsimp only [jpush]
                (try simp (disch := omega) only [put_r6, put_w6, put_r7, put_w7, put_r9, put_w9, put_r10, put_w10, put_r11, put_w11, put_r12, put_w12, put_r13, put_w13, put_r14, put_w14, put_r15, put_w15, put_ra, put_r8, put_r0, put_rt, put_wa, u1, u2, hn8])
                refine e_icmp_ne 63 69 dX12_keyAt_60 (by omega) (by decide) (by decide) rfl (fun b60 => ?_) (fun b60 => ?_)
                · skip
                  refine e_ldcS 71 (i := 20) (by decide) rfl rfl dX12_keyAt_69 rfl ?_
                  refine e_iload_n (i := 2) 72 dX12_keyAt_71 rfl rfl rfl ?_
                  refine e_iload_n (i := 3) 73 dX12_keyAt_72 rfl rfl rfl ?_
                  refine e_iadd 74 dX12_keyAt_73 rfl ?_
                  refine e_callF (av := [jI _]) 77 (i := 20) (by decide) mt_yJ_charAt mv_yJ_charAt wd_1410 (by decide) dX12_keyAt_74 rfl rfl rfl (Nat.le_of_ble_eq_true rfl) (jroom (by decide)) rfl (c_charAt (i := 20) (k := 31) (z := 114) (by decide) (by decide) (by decide +kernel) ?_)
                  dsimp only [jpush]
                  (try simp (disch := omega) only [put_r6, put_w6, put_r7, put_w7, put_r9, put_w9, put_r10, put_w10, put_r11, put_w11, put_r12, put_w12, put_r13, put_w13, put_r14, put_w14, put_r15, put_w15, put_ra, put_r8, put_r0, put_rt, put_wa, u1, u2, hn8])
                  refine e_bipush 79 dX12_keyAt_77 (by decide) rfl ?_
                  refine e_icmp_ne 82 97 dX12_keyAt_79 (by decide) (by decide) (by decide) rfl (fun _ => ?_) (fun h => absurd h (by decide))
                  refine e_ls (ls2 := [(0, _), (1, _), (2, _)]) rfl ?_
                  refine sk_5 (kk_6 hT hp hb ?_)
                  rw [kx5, if_neg (fun q => by omega)] at h
                  exact h
                · skip
                  refine e_iinc (lsn := [(3, _), (0, _), (1, _), (2, _)]) 66 dX12_keyAt_63 rfl (by decide) rfl rfl ?_
                  refine e_goto 15 dX12_keyAt_66 (by decide) ?_
                  refine e_ldcS 17 (i := 20) (by decide) rfl rfl dX12_keyAt_15 rfl ?_
                  refine e_iload_n (i := 2) 18 dX12_keyAt_17 rfl rfl rfl ?_
                  refine e_iload_n (i := 3) 19 dX12_keyAt_18 rfl rfl rfl ?_
                  refine e_iadd 20 dX12_keyAt_19 rfl ?_
                  refine e_callF (av := [jI _]) 23 (i := 20) (by decide) mt_yJ_charAt mv_yJ_charAt wd_1410 (by decide) dX12_keyAt_20 rfl rfl rfl (Nat.le_of_ble_eq_true rfl) (jroom (by decide)) rfl (c_charAt (i := 20) (k := 32) (z := 110) (by decide) (by decide) (by decide +kernel) ?_)
                  dsimp only [jpush]
                  (try simp (disch := omega) only [put_r6, put_w6, put_r7, put_w7, put_r9, put_w9, put_r10, put_w10, put_r11, put_w11, put_r12, put_w12, put_r13, put_w13, put_r14, put_w14, put_r15, put_w15, put_ra, put_r8, put_r0, put_rt, put_wa, u1, u2, hn8])
                  refine e_bipush 25 dX12_keyAt_23 (by decide) rfl ?_
                  refine e_icmp_eq 28 69 dX12_keyAt_25 (by decide) (by decide) (by decide) rfl (fun h => absurd h (by decide)) (fun _ => ?_)
                  refine e_aload_n (i := 0) 29 dX12_keyAt_28 rfl rfl rfl ?_
                  refine e_geti (j := 6) 32 fl_12_97 dX12_keyAt_29 at_928 (by decide) rfl rfl (fun r29 => ?_)
                  simp (disch := omega) only [put_r6, put_w6, put_r7, put_w7, put_r9, put_w9, put_r10, put_w10, put_r11, put_w11, put_r12, put_w12, put_r13, put_w13, put_r14, put_w14, put_r15, put_w15, put_ra, put_r8, put_r0, put_rt, put_wa, u1, u2, hn8] at r29 ⊢
                  refine e_iload_n (i := 3) 33 dX12_keyAt_32 rfl rfl rfl ?_
                  refine e_iadd 34 dX12_keyAt_33 rfl ?_
                  refine e_aload_n (i := 0) 35 dX12_keyAt_34 rfl rfl rfl ?_
                  refine e_geti (j := 7) 38 fl_12_100 dX12_keyAt_35 at_928 (by decide) rfl rfl (fun r35 => ?_)
                  simp (disch := omega) only [put_r6, put_w6, put_r7, put_w7, put_r9, put_w9, put_r10, put_w10, put_r11, put_w11, put_r12, put_w12, put_r13, put_w13, put_r14, put_w14, put_r15, put_w15, put_ra, put_r8, put_r0, put_rt, put_wa, u1, u2, hn8] at r35 ⊢
                  refine e_icmp_ge 41 69 dX12_keyAt_38 (by omega) (by omega) (by decide) rfl (fun b38 => ?_) (fun b38 => ?_)
                  · skip
                    refine e_ldcS 71 (i := 20) (by decide) rfl rfl dX12_keyAt_69 rfl ?_
                    refine e_iload_n (i := 2) 72 dX12_keyAt_71 rfl rfl rfl ?_
                    refine e_iload_n (i := 3) 73 dX12_keyAt_72 rfl rfl rfl ?_
                    refine e_iadd 74 dX12_keyAt_73 rfl ?_
                    refine e_callF (av := [jI _]) 77 (i := 20) (by decide) mt_yJ_charAt mv_yJ_charAt wd_1410 (by decide) dX12_keyAt_74 rfl rfl rfl (Nat.le_of_ble_eq_true rfl) (jroom (by decide)) rfl (c_charAt (i := 20) (k := 32) (z := 110) (by decide) (by decide) (by decide +kernel) ?_)
                    dsimp only [jpush]
                    (try simp (disch := omega) only [put_r6, put_w6, put_r7, put_w7, put_r9, put_w9, put_r10, put_w10, put_r11, put_w11, put_r12, put_w12, put_r13, put_w13, put_r14, put_w14, put_r15, put_w15, put_ra, put_r8, put_r0, put_rt, put_wa, u1, u2, hn8])
                    refine e_bipush 79 dX12_keyAt_77 (by decide) rfl ?_
                    refine e_icmp_ne 82 97 dX12_keyAt_79 (by decide) (by decide) (by decide) rfl (fun _ => ?_) (fun h => absurd h (by decide))
                    refine e_ls (ls2 := [(0, _), (1, _), (2, _)]) rfl ?_
                    refine sk_5 (kk_6 hT hp hb ?_)
                    rw [kx5, if_neg (fun q => by omega)] at h
                    exact h
                  · skip
                    refine e_aload_n (i := 0) 42 dX12_keyAt_41 rfl rfl rfl ?_
                    refine e_getr (j := 3) 45 fl_12_21 dX12_keyAt_42 at_928 rfl rfl tp_928_3 rfl ?_
                    refine e_aload_n (i := 0) 46 dX12_keyAt_45 rfl rfl rfl ?_
                    refine e_geti (j := 6) 49 fl_12_97 dX12_keyAt_46 at_928 (by decide) rfl rfl (fun r46 => ?_)
                    simp (disch := omega) only [put_r6, put_w6, put_r7, put_w7, put_r9, put_w9, put_r10, put_w10, put_r11, put_w11, put_r12, put_w12, put_r13, put_w13, put_r14, put_w14, put_r15, put_w15, put_ra, put_r8, put_r0, put_rt, put_wa, u1, u2, hn8] at r46 ⊢
                    refine e_iload_n (i := 3) 50 dX12_keyAt_49 rfl rfl rfl ?_
                    refine e_iadd 51 dX12_keyAt_50 rfl ?_
                    refine e_iald 52 dX12_keyAt_51 ar_931 (by omega) (by omega) rfl (fun r51 => ?_)
                    simp (disch := omega) only [put_r6, put_w6, put_r7, put_w7, put_r9, put_w9, put_r10, put_w10, put_r11, put_w11, put_r12, put_w12, put_r13, put_w13, put_r14, put_w14, put_r15, put_w15, put_ra, put_r8, put_r0, put_rt, put_wa, u1, u2, hn8, Int.reduceAdd, Int.add_zero] at r51 ⊢
                    refine e_ldcS 54 (i := 20) (by decide) rfl rfl dX12_keyAt_52 rfl ?_
                    refine e_iload_n (i := 2) 55 dX12_keyAt_54 rfl rfl rfl ?_
                    refine e_iload_n (i := 3) 56 dX12_keyAt_55 rfl rfl rfl ?_
                    refine e_iadd 57 dX12_keyAt_56 rfl ?_
                    refine e_callF (av := [jI _]) 60 (i := 20) (by decide) mt_yJ_charAt mv_yJ_charAt wd_1410 (by decide) dX12_keyAt_57 rfl rfl rfl (Nat.le_of_ble_eq_true rfl) (jroom (by decide)) rfl (c_charAt (i := 20) (k := 32) (z := 110) (by decide) (by decide) (by decide +kernel) ?_)
                    dsimp only [jpush]
                    (try simp (disch := omega) only [put_r6, put_w6, put_r7, put_w7, put_r9, put_w9, put_r10, put_w10, put_r11, put_w11, put_r12, put_w12, put_r13, put_w13, put_r14, put_w14, put_r15, put_w15, put_ra, put_r8, put_r0, put_rt, put_wa, u1, u2, hn8])
                    refine e_icmp_ne 63 69 dX12_keyAt_60 (by omega) (by decide) (by decide) rfl (fun b60 => ?_) (fun b60 => ?_)
                    · skip
                      refine e_ldcS 71 (i := 20) (by decide) rfl rfl dX12_keyAt_69 rfl ?_
                      refine e_iload_n (i := 2) 72 dX12_keyAt_71 rfl rfl rfl ?_
                      refine e_iload_n (i := 3) 73 dX12_keyAt_72 rfl rfl rfl ?_
                      refine e_iadd 74 dX12_keyAt_73 rfl ?_
                      refine e_callF (av := [jI _]) 77 (i := 20) (by decide) mt_yJ_charAt mv_yJ_charAt wd_1410 (by decide) dX12_keyAt_74 rfl rfl rfl (Nat.le_of_ble_eq_true rfl) (jroom (by decide)) rfl (c_charAt (i := 20) (k := 32) (z := 110) (by decide) (by decide) (by decide +kernel) ?_)
                      dsimp only [jpush]
                      (try simp (disch := omega) only [put_r6, put_w6, put_r7, put_w7, put_r9, put_w9, put_r10, put_w10, put_r11, put_w11, put_r12, put_w12, put_r13, put_w13, put_r14, put_w14, put_r15, put_w15, put_ra, put_r8, put_r0, put_rt, put_wa, u1, u2, hn8])
                      refine e_bipush 79 dX12_keyAt_77 (by decide) rfl ?_
                      refine e_icmp_ne 82 97 dX12_keyAt_79 (by decide) (by decide) (by decide) rfl (fun _ => ?_) (fun h => absurd h (by decide))
                      refine e_ls (ls2 := [(0, _), (1, _), (2, _)]) rfl ?_
                      refine sk_5 (kk_6 hT hp hb ?_)
                      rw [kx5, if_neg (fun q => by omega)] at h
                      exact h
                    · skip
                      refine e_iinc (lsn := [(3, _), (0, _), (1, _), (2, _)]) 66 dX12_keyAt_63 rfl (by decide) rfl rfl ?_
                      refine e_goto 15 dX12_keyAt_66 (by decide) ?_
                      refine e_ldcS 17 (i := 20) (by decide) rfl rfl dX12_keyAt_15 rfl ?_
                      refine e_iload_n (i := 2) 18 dX12_keyAt_17 rfl rfl rfl ?_
                      refine e_iload_n (i := 3) 19 dX12_keyAt_18 rfl rfl rfl ?_
                      refine e_iadd 20 dX12_keyAt_19 rfl ?_
                      refine e_callF (av := [jI _]) 23 (i := 20) (by decide) mt_yJ_charAt mv_yJ_charAt wd_1410 (by decide) dX12_keyAt_20 rfl rfl rfl (Nat.le_of_ble_eq_true rfl) (jroom (by decide)) rfl (c_charAt (i := 20) (k := 33) (z := 32) (by decide) (by decide) (by decide +kernel) ?_)
                      dsimp only [jpush]
                      (try simp (disch := omega) only [put_r6, put_w6, put_r7, put_w7, put_r9, put_w9, put_r10, put_w10, put_r11, put_w11, put_r12, put_w12, put_r13, put_w13, put_r14, put_w14, put_r15, put_w15, put_ra, put_r8, put_r0, put_rt, put_wa, u1, u2, hn8])
                      refine e_bipush 25 dX12_keyAt_23 (by decide) rfl ?_
                      refine e_icmp_eq 28 69 dX12_keyAt_25 (by decide) (by decide) (by decide) rfl (fun _ => ?_) (fun h => absurd h (by decide))
                      refine e_ldcS 71 (i := 20) (by decide) rfl rfl dX12_keyAt_69 rfl ?_
                      refine e_iload_n (i := 2) 72 dX12_keyAt_71 rfl rfl rfl ?_
                      refine e_iload_n (i := 3) 73 dX12_keyAt_72 rfl rfl rfl ?_
                      refine e_iadd 74 dX12_keyAt_73 rfl ?_
                      refine e_callF (av := [jI _]) 77 (i := 20) (by decide) mt_yJ_charAt mv_yJ_charAt wd_1410 (by decide) dX12_keyAt_74 rfl rfl rfl (Nat.le_of_ble_eq_true rfl) (jroom (by decide)) rfl (c_charAt (i := 20) (k := 33) (z := 32) (by decide) (by decide) (by decide +kernel) ?_)
                      dsimp only [jpush]
                      (try simp (disch := omega) only [put_r6, put_w6, put_r7, put_w7, put_r9, put_w9, put_r10, put_w10, put_r11, put_w11, put_r12, put_w12, put_r13, put_w13, put_r14, put_w14, put_r15, put_w15, put_ra, put_r8, put_r0, put_rt, put_wa, u1, u2, hn8])
                      refine e_bipush 79 dX12_keyAt_77 (by decide) rfl ?_
                      refine e_icmp_ne 82 97 dX12_keyAt_79 (by decide) (by decide) (by decide) rfl (fun h => absurd h (by decide)) (fun _ => ?_)
                      refine e_aload_n (i := 0) 83 dX12_keyAt_82 rfl rfl rfl ?_
                      refine e_geti (j := 6) 86 fl_12_97 dX12_keyAt_83 at_928 (by decide) rfl rfl (fun r83 => ?_)
                      simp (disch := omega) only [put_r6, put_w6, put_r7, put_w7, put_r9, put_w9, put_r10, put_w10, put_r11, put_w11, put_r12, put_w12, put_r13, put_w13, put_r14, put_w14, put_r15, put_w15, put_ra, put_r8, put_r0, put_rt, put_wa, u1, u2, hn8] at r83 ⊢
                      refine e_iload_n (i := 3) 87 dX12_keyAt_86 rfl rfl rfl ?_
                      refine e_iadd 88 dX12_keyAt_87 rfl ?_
                      refine e_aload_n (i := 0) 89 dX12_keyAt_88 rfl rfl rfl ?_
                      refine e_geti (j := 7) 92 fl_12_100 dX12_keyAt_89 at_928 (by decide) rfl rfl (fun r89 => ?_)
                      simp (disch := omega) only [put_r6, put_w6, put_r7, put_w7, put_r9, put_w9, put_r10, put_w10, put_r11, put_w11, put_r12, put_w12, put_r13, put_w13, put_r14, put_w14, put_r15, put_w15, put_ra, put_r8, put_r0, put_rt, put_wa, u1, u2, hn8] at r89 ⊢
                      refine e_icmp_ne 95 97 dX12_keyAt_92 (by omega) (by omega) (by decide) rfl (fun b92 => ?_) (fun b92 => ?_)
                      · skip
                        refine e_ls (ls2 := [(0, _), (1, _), (2, _)]) rfl ?_
                        refine sk_5 (kk_6 hT hp hb ?_)
                        rw [kx5, if_neg (fun q => by omega)] at h
                        exact h
                      · skip
                        refine e_iload_n (i := 1) 96 dX12_keyAt_95 rfl rfl rfl ?_
                        refine e_iret dX12_keyAt_96 ?_
                        rw [kx5, if_pos (by omega)] at h
                        exact h

theorem sk_4 {X : jX} {Y : jM} {Q : Int → jM → Prop} (h : jE X yX12_keyAt cX12_keyAt 4 (some .int) 5 Q Y 4 [(0, jR 928), (1, jI 5), (2, jI 28)] []) : jE X yX12_keyAt cX12_keyAt 4 (some .int) 5 Q Y 97 [(0, jR 928), (1, jI 4), (2, jI 21)] [] := by
  refine e_ldcS 99 (i := 20) (by decide) rfl rfl dX12_keyAt_97 rfl ?_
  refine e_iload_n (i := 2) 100 dX12_keyAt_99 rfl rfl rfl ?_
  refine e_callF (av := [jI _]) 103 (i := 20) (by decide) mt_yJ_charAt mv_yJ_charAt wd_1410 (by decide) dX12_keyAt_100 rfl rfl rfl (Nat.le_of_ble_eq_true rfl) (jroom (by decide)) rfl (c_charAt (i := 20) (k := 21) (z := 116) (by decide) (by decide) (by decide +kernel) ?_)
  dsimp only [jpush]
  refine e_bipush 105 dX12_keyAt_103 (by decide) rfl ?_
  refine e_icmp_eq 108 114 dX12_keyAt_105 (by decide) (by decide) (by decide) rfl (fun h => absurd h (by decide)) (fun _ => ?_)
  refine e_iinc (lsn := [(2, _), (0, _), (1, _)]) 111 dX12_keyAt_108 rfl (by decide) rfl rfl ?_
  refine e_goto 97 dX12_keyAt_111 (by decide) ?_
  refine e_ldcS 99 (i := 20) (by decide) rfl rfl dX12_keyAt_97 rfl ?_
  refine e_iload_n (i := 2) 100 dX12_keyAt_99 rfl rfl rfl ?_
  refine e_callF (av := [jI _]) 103 (i := 20) (by decide) mt_yJ_charAt mv_yJ_charAt wd_1410 (by decide) dX12_keyAt_100 rfl rfl rfl (Nat.le_of_ble_eq_true rfl) (jroom (by decide)) rfl (c_charAt (i := 20) (k := 22) (z := 105) (by decide) (by decide) (by decide +kernel) ?_)
  dsimp only [jpush]
  refine e_bipush 105 dX12_keyAt_103 (by decide) rfl ?_
  refine e_icmp_eq 108 114 dX12_keyAt_105 (by decide) (by decide) (by decide) rfl (fun h => absurd h (by decide)) (fun _ => ?_)
  refine e_iinc (lsn := [(2, _), (0, _), (1, _)]) 111 dX12_keyAt_108 rfl (by decide) rfl rfl ?_
  refine e_goto 97 dX12_keyAt_111 (by decide) ?_
  refine e_ldcS 99 (i := 20) (by decide) rfl rfl dX12_keyAt_97 rfl ?_
  refine e_iload_n (i := 2) 100 dX12_keyAt_99 rfl rfl rfl ?_
  refine e_callF (av := [jI _]) 103 (i := 20) (by decide) mt_yJ_charAt mv_yJ_charAt wd_1410 (by decide) dX12_keyAt_100 rfl rfl rfl (Nat.le_of_ble_eq_true rfl) (jroom (by decide)) rfl (c_charAt (i := 20) (k := 23) (z := 99) (by decide) (by decide) (by decide +kernel) ?_)
  dsimp only [jpush]
  refine e_bipush 105 dX12_keyAt_103 (by decide) rfl ?_
  refine e_icmp_eq 108 114 dX12_keyAt_105 (by decide) (by decide) (by decide) rfl (fun h => absurd h (by decide)) (fun _ => ?_)
  refine e_iinc (lsn := [(2, _), (0, _), (1, _)]) 111 dX12_keyAt_108 rfl (by decide) rfl rfl ?_
  refine e_goto 97 dX12_keyAt_111 (by decide) ?_
  refine e_ldcS 99 (i := 20) (by decide) rfl rfl dX12_keyAt_97 rfl ?_
  refine e_iload_n (i := 2) 100 dX12_keyAt_99 rfl rfl rfl ?_
  refine e_callF (av := [jI _]) 103 (i := 20) (by decide) mt_yJ_charAt mv_yJ_charAt wd_1410 (by decide) dX12_keyAt_100 rfl rfl rfl (Nat.le_of_ble_eq_true rfl) (jroom (by decide)) rfl (c_charAt (i := 20) (k := 24) (z := 107) (by decide) (by decide) (by decide +kernel) ?_)
  dsimp only [jpush]
  refine e_bipush 105 dX12_keyAt_103 (by decide) rfl ?_
  refine e_icmp_eq 108 114 dX12_keyAt_105 (by decide) (by decide) (by decide) rfl (fun h => absurd h (by decide)) (fun _ => ?_)
  refine e_iinc (lsn := [(2, _), (0, _), (1, _)]) 111 dX12_keyAt_108 rfl (by decide) rfl rfl ?_
  refine e_goto 97 dX12_keyAt_111 (by decide) ?_
  refine e_ldcS 99 (i := 20) (by decide) rfl rfl dX12_keyAt_97 rfl ?_
  refine e_iload_n (i := 2) 100 dX12_keyAt_99 rfl rfl rfl ?_
  refine e_callF (av := [jI _]) 103 (i := 20) (by decide) mt_yJ_charAt mv_yJ_charAt wd_1410 (by decide) dX12_keyAt_100 rfl rfl rfl (Nat.le_of_ble_eq_true rfl) (jroom (by decide)) rfl (c_charAt (i := 20) (k := 25) (z := 101) (by decide) (by decide) (by decide +kernel) ?_)
  dsimp only [jpush]
  refine e_bipush 105 dX12_keyAt_103 (by decide) rfl ?_
  refine e_icmp_eq 108 114 dX12_keyAt_105 (by decide) (by decide) (by decide) rfl (fun h => absurd h (by decide)) (fun _ => ?_)
  refine e_iinc (lsn := [(2, _), (0, _), (1, _)]) 111 dX12_keyAt_108 rfl (by decide) rfl rfl ?_
  refine e_goto 97 dX12_keyAt_111 (by decide) ?_
  refine e_ldcS 99 (i := 20) (by decide) rfl rfl dX12_keyAt_97 rfl ?_
  refine e_iload_n (i := 2) 100 dX12_keyAt_99 rfl rfl rfl ?_
  refine e_callF (av := [jI _]) 103 (i := 20) (by decide) mt_yJ_charAt mv_yJ_charAt wd_1410 (by decide) dX12_keyAt_100 rfl rfl rfl (Nat.le_of_ble_eq_true rfl) (jroom (by decide)) rfl (c_charAt (i := 20) (k := 26) (z := 116) (by decide) (by decide) (by decide +kernel) ?_)
  dsimp only [jpush]
  refine e_bipush 105 dX12_keyAt_103 (by decide) rfl ?_
  refine e_icmp_eq 108 114 dX12_keyAt_105 (by decide) (by decide) (by decide) rfl (fun h => absurd h (by decide)) (fun _ => ?_)
  refine e_iinc (lsn := [(2, _), (0, _), (1, _)]) 111 dX12_keyAt_108 rfl (by decide) rfl rfl ?_
  refine e_goto 97 dX12_keyAt_111 (by decide) ?_
  refine e_ldcS 99 (i := 20) (by decide) rfl rfl dX12_keyAt_97 rfl ?_
  refine e_iload_n (i := 2) 100 dX12_keyAt_99 rfl rfl rfl ?_
  refine e_callF (av := [jI _]) 103 (i := 20) (by decide) mt_yJ_charAt mv_yJ_charAt wd_1410 (by decide) dX12_keyAt_100 rfl rfl rfl (Nat.le_of_ble_eq_true rfl) (jroom (by decide)) rfl (c_charAt (i := 20) (k := 27) (z := 32) (by decide) (by decide) (by decide +kernel) ?_)
  dsimp only [jpush]
  refine e_bipush 105 dX12_keyAt_103 (by decide) rfl ?_
  refine e_icmp_eq 108 114 dX12_keyAt_105 (by decide) (by decide) (by decide) rfl (fun _ => ?_) (fun h => absurd h (by decide))
  refine e_iinc (lsn := [(2, _), (0, _), (1, _)]) 117 dX12_keyAt_114 rfl (by decide) rfl rfl ?_
  refine e_iinc (lsn := [(1, _), (2, _), (0, _)]) 120 dX12_keyAt_117 rfl (by decide) rfl rfl ?_
  refine e_goto 4 dX12_keyAt_120 (by decide) ?_
  refine e_ls (ls2 := [(0, _), (1, _), (2, _)]) rfl ?_
  exact h

theorem kk_4 {X : jX} {M : jM} {n : Int} {Q : Int → jM → Prop} (hT : RT M n) {s : PS} (hp : 0 ≤ s.1) (hb : s.1 ≤ s.2.1 ∧ s.2.1 ≤ n) (h : Q (kx4 (M 931) s.1 s.2.1) (put M s)) : jE X yX12_keyAt cX12_keyAt 4 (some .int) 5 Q (put M s) 4 [(0, jR 928), (1, jI 4), (2, jI 21)] [] := by
  have hn8 := hT.1
  have hn := hT.2.1
  refine e_iload_n (i := 2) 5 dX12_keyAt_4 rfl rfl rfl ?_
  refine e_ldcS 7 (i := 20) (by decide) rfl rfl dX12_keyAt_5 rfl ?_
  refine e_callF (av := []) 10 (i := 20) (by decide) mt_yJ_len mv_yJ_len wd_1409 (by decide) dX12_keyAt_7 rfl rfl rfl (Nat.le_of_ble_eq_true rfl) (jroom (by decide)) rfl (c_strlen (i := 20) (z := 99) (by decide) (by decide) ?_)
  dsimp only [jpush]
  (try simp (disch := omega) only [put_r6, put_w6, put_r7, put_w7, put_r9, put_w9, put_r10, put_w10, put_r11, put_w11, put_r12, put_w12, put_r13, put_w13, put_r14, put_w14, put_r15, put_w15, put_ra, put_r8, put_r0, put_rt, put_wa, u1, u2, hn8])
  refine e_icmp_ge 13 123 dX12_keyAt_10 (by decide) (by decide) (by decide) rfl (fun h => absurd h (by decide)) (fun _ => ?_)
  refine e_iconst 14 dX12_keyAt_13 rfl ?_
  refine e_istore_n (i := 3) (lsn := [(3, _), (0, _), (1, _), (2, _)]) 15 dX12_keyAt_14 rfl (by decide) rfl rfl ?_
  refine e_ldcS 17 (i := 20) (by decide) rfl rfl dX12_keyAt_15 rfl ?_
  refine e_iload_n (i := 2) 18 dX12_keyAt_17 rfl rfl rfl ?_
  refine e_iload_n (i := 3) 19 dX12_keyAt_18 rfl rfl rfl ?_
  refine e_iadd 20 dX12_keyAt_19 rfl ?_
  refine e_callF (av := [jI _]) 23 (i := 20) (by decide) mt_yJ_charAt mv_yJ_charAt wd_1410 (by decide) dX12_keyAt_20 rfl rfl rfl (Nat.le_of_ble_eq_true rfl) (jroom (by decide)) rfl (c_charAt (i := 20) (k := 21) (z := 116) (by decide) (by decide) (by decide +kernel) ?_)
  dsimp only [jpush]
  (try simp (disch := omega) only [put_r6, put_w6, put_r7, put_w7, put_r9, put_w9, put_r10, put_w10, put_r11, put_w11, put_r12, put_w12, put_r13, put_w13, put_r14, put_w14, put_r15, put_w15, put_ra, put_r8, put_r0, put_rt, put_wa, u1, u2, hn8])
  refine e_bipush 25 dX12_keyAt_23 (by decide) rfl ?_
  refine e_icmp_eq 28 69 dX12_keyAt_25 (by decide) (by decide) (by decide) rfl (fun h => absurd h (by decide)) (fun _ => ?_)
  refine e_aload_n (i := 0) 29 dX12_keyAt_28 rfl rfl rfl ?_
  refine e_geti (j := 6) 32 fl_12_97 dX12_keyAt_29 at_928 (by decide) rfl rfl (fun r29 => ?_)
  simp (disch := omega) only [put_r6, put_w6, put_r7, put_w7, put_r9, put_w9, put_r10, put_w10, put_r11, put_w11, put_r12, put_w12, put_r13, put_w13, put_r14, put_w14, put_r15, put_w15, put_ra, put_r8, put_r0, put_rt, put_wa, u1, u2, hn8] at r29 ⊢
  refine e_iload_n (i := 3) 33 dX12_keyAt_32 rfl rfl rfl ?_
  refine e_iadd 34 dX12_keyAt_33 rfl ?_
  refine e_aload_n (i := 0) 35 dX12_keyAt_34 rfl rfl rfl ?_
  refine e_geti (j := 7) 38 fl_12_100 dX12_keyAt_35 at_928 (by decide) rfl rfl (fun r35 => ?_)
  simp (disch := omega) only [put_r6, put_w6, put_r7, put_w7, put_r9, put_w9, put_r10, put_w10, put_r11, put_w11, put_r12, put_w12, put_r13, put_w13, put_r14, put_w14, put_r15, put_w15, put_ra, put_r8, put_r0, put_rt, put_wa, u1, u2, hn8] at r35 ⊢
  refine e_icmp_ge 41 69 dX12_keyAt_38 (by omega) (by omega) (by decide) rfl (fun b38 => ?_) (fun b38 => ?_)
  · skip
    refine e_ldcS 71 (i := 20) (by decide) rfl rfl dX12_keyAt_69 rfl ?_
    refine e_iload_n (i := 2) 72 dX12_keyAt_71 rfl rfl rfl ?_
    refine e_iload_n (i := 3) 73 dX12_keyAt_72 rfl rfl rfl ?_
    refine e_iadd 74 dX12_keyAt_73 rfl ?_
    refine e_callF (av := [jI _]) 77 (i := 20) (by decide) mt_yJ_charAt mv_yJ_charAt wd_1410 (by decide) dX12_keyAt_74 rfl rfl rfl (Nat.le_of_ble_eq_true rfl) (jroom (by decide)) rfl (c_charAt (i := 20) (k := 21) (z := 116) (by decide) (by decide) (by decide +kernel) ?_)
    dsimp only [jpush]
    (try simp (disch := omega) only [put_r6, put_w6, put_r7, put_w7, put_r9, put_w9, put_r10, put_w10, put_r11, put_w11, put_r12, put_w12, put_r13, put_w13, put_r14, put_w14, put_r15, put_w15, put_ra, put_r8, put_r0, put_rt, put_wa, u1, u2, hn8])
    refine e_bipush 79 dX12_keyAt_77 (by decide) rfl ?_
    refine e_icmp_ne 82 97 dX12_keyAt_79 (by decide) (by decide) (by decide) rfl (fun _ => ?_) (fun h => absurd h (by decide))
    refine e_ls (ls2 := [(0, _), (1, _), (2, _)]) rfl ?_
    refine sk_4 (kk_5 hT hp hb ?_)
    rw [kx4, if_neg (fun q => by omega)] at h
    exact h
  · skip
    refine e_aload_n (i := 0) 42 dX12_keyAt_41 rfl rfl rfl ?_
    refine e_getr (j := 3) 45 fl_12_21 dX12_keyAt_42 at_928 rfl rfl tp_928_3 rfl ?_
    refine e_aload_n (i := 0) 46 dX12_keyAt_45 rfl rfl rfl ?_
    refine e_geti (j := 6) 49 fl_12_97 dX12_keyAt_46 at_928 (by decide) rfl rfl (fun r46 => ?_)
    simp (disch := omega) only [put_r6, put_w6, put_r7, put_w7, put_r9, put_w9, put_r10, put_w10, put_r11, put_w11, put_r12, put_w12, put_r13, put_w13, put_r14, put_w14, put_r15, put_w15, put_ra, put_r8, put_r0, put_rt, put_wa, u1, u2, hn8] at r46 ⊢
    refine e_iload_n (i := 3) 50 dX12_keyAt_49 rfl rfl rfl ?_
    refine e_iadd 51 dX12_keyAt_50 rfl ?_
    refine e_iald 52 dX12_keyAt_51 ar_931 (by omega) (by omega) rfl (fun r51 => ?_)
    simp (disch := omega) only [put_r6, put_w6, put_r7, put_w7, put_r9, put_w9, put_r10, put_w10, put_r11, put_w11, put_r12, put_w12, put_r13, put_w13, put_r14, put_w14, put_r15, put_w15, put_ra, put_r8, put_r0, put_rt, put_wa, u1, u2, hn8, Int.reduceAdd, Int.add_zero] at r51 ⊢
    refine e_ldcS 54 (i := 20) (by decide) rfl rfl dX12_keyAt_52 rfl ?_
    refine e_iload_n (i := 2) 55 dX12_keyAt_54 rfl rfl rfl ?_
    refine e_iload_n (i := 3) 56 dX12_keyAt_55 rfl rfl rfl ?_
    refine e_iadd 57 dX12_keyAt_56 rfl ?_
    refine e_callF (av := [jI _]) 60 (i := 20) (by decide) mt_yJ_charAt mv_yJ_charAt wd_1410 (by decide) dX12_keyAt_57 rfl rfl rfl (Nat.le_of_ble_eq_true rfl) (jroom (by decide)) rfl (c_charAt (i := 20) (k := 21) (z := 116) (by decide) (by decide) (by decide +kernel) ?_)
    dsimp only [jpush]
    (try simp (disch := omega) only [put_r6, put_w6, put_r7, put_w7, put_r9, put_w9, put_r10, put_w10, put_r11, put_w11, put_r12, put_w12, put_r13, put_w13, put_r14, put_w14, put_r15, put_w15, put_ra, put_r8, put_r0, put_rt, put_wa, u1, u2, hn8])
    refine e_icmp_ne 63 69 dX12_keyAt_60 (by omega) (by decide) (by decide) rfl (fun b60 => ?_) (fun b60 => ?_)
    · skip
      refine e_ldcS 71 (i := 20) (by decide) rfl rfl dX12_keyAt_69 rfl ?_
      refine e_iload_n (i := 2) 72 dX12_keyAt_71 rfl rfl rfl ?_
      refine e_iload_n (i := 3) 73 dX12_keyAt_72 rfl rfl rfl ?_
      refine e_iadd 74 dX12_keyAt_73 rfl ?_
      refine e_callF (av := [jI _]) 77 (i := 20) (by decide) mt_yJ_charAt mv_yJ_charAt wd_1410 (by decide) dX12_keyAt_74 rfl rfl rfl (Nat.le_of_ble_eq_true rfl) (jroom (by decide)) rfl (c_charAt (i := 20) (k := 21) (z := 116) (by decide) (by decide) (by decide +kernel) ?_)
      dsimp only [jpush]
      (try simp (disch := omega) only [put_r6, put_w6, put_r7, put_w7, put_r9, put_w9, put_r10, put_w10, put_r11, put_w11, put_r12, put_w12, put_r13, put_w13, put_r14, put_w14, put_r15, put_w15, put_ra, put_r8, put_r0, put_rt, put_wa, u1, u2, hn8])
      refine e_bipush 79 dX12_keyAt_77 (by decide) rfl ?_
      refine e_icmp_ne 82 97 dX12_keyAt_79 (by decide) (by decide) (by decide) rfl (fun _ => ?_) (fun h => absurd h (by decide))
      refine e_ls (ls2 := [(0, _), (1, _), (2, _)]) rfl ?_
      refine sk_4 (kk_5 hT hp hb ?_)
      rw [kx4, if_neg (fun q => by omega)] at h
      exact h
    · skip
      refine e_iinc (lsn := [(3, _), (0, _), (1, _), (2, _)]) 66 dX12_keyAt_63 rfl (by decide) rfl rfl ?_
      refine e_goto 15 dX12_keyAt_66 (by decide) ?_
      refine e_ldcS 17 (i := 20) (by decide) rfl rfl dX12_keyAt_15 rfl ?_
      refine e_iload_n (i := 2) 18 dX12_keyAt_17 rfl rfl rfl ?_
      refine e_iload_n (i := 3) 19 dX12_keyAt_18 rfl rfl rfl ?_
      refine e_iadd 20 dX12_keyAt_19 rfl ?_
      refine e_callF (av := [jI _]) 23 (i := 20) (by decide) mt_yJ_charAt mv_yJ_charAt wd_1410 (by decide) dX12_keyAt_20 rfl rfl rfl (Nat.le_of_ble_eq_true rfl) (jroom (by decide)) rfl (c_charAt (i := 20) (k := 22) (z := 105) (by decide) (by decide) (by decide +kernel) ?_)
      dsimp only [jpush]
      (try simp (disch := omega) only [put_r6, put_w6, put_r7, put_w7, put_r9, put_w9, put_r10, put_w10, put_r11, put_w11, put_r12, put_w12, put_r13, put_w13, put_r14, put_w14, put_r15, put_w15, put_ra, put_r8, put_r0, put_rt, put_wa, u1, u2, hn8])
      refine e_bipush 25 dX12_keyAt_23 (by decide) rfl ?_
      refine e_icmp_eq 28 69 dX12_keyAt_25 (by decide) (by decide) (by decide) rfl (fun h => absurd h (by decide)) (fun _ => ?_)
      refine e_aload_n (i := 0) 29 dX12_keyAt_28 rfl rfl rfl ?_
      refine e_geti (j := 6) 32 fl_12_97 dX12_keyAt_29 at_928 (by decide) rfl rfl (fun r29 => ?_)
      simp (disch := omega) only [put_r6, put_w6, put_r7, put_w7, put_r9, put_w9, put_r10, put_w10, put_r11, put_w11, put_r12, put_w12, put_r13, put_w13, put_r14, put_w14, put_r15, put_w15, put_ra, put_r8, put_r0, put_rt, put_wa, u1, u2, hn8] at r29 ⊢
      refine e_iload_n (i := 3) 33 dX12_keyAt_32 rfl rfl rfl ?_
      refine e_iadd 34 dX12_keyAt_33 rfl ?_
      refine e_aload_n (i := 0) 35 dX12_keyAt_34 rfl rfl rfl ?_
      refine e_geti (j := 7) 38 fl_12_100 dX12_keyAt_35 at_928 (by decide) rfl rfl (fun r35 => ?_)
      simp (disch := omega) only [put_r6, put_w6, put_r7, put_w7, put_r9, put_w9, put_r10, put_w10, put_r11, put_w11, put_r12, put_w12, put_r13, put_w13, put_r14, put_w14, put_r15, put_w15, put_ra, put_r8, put_r0, put_rt, put_wa, u1, u2, hn8] at r35 ⊢
      refine e_icmp_ge 41 69 dX12_keyAt_38 (by omega) (by omega) (by decide) rfl (fun b38 => ?_) (fun b38 => ?_)
      · skip
        refine e_ldcS 71 (i := 20) (by decide) rfl rfl dX12_keyAt_69 rfl ?_
        refine e_iload_n (i := 2) 72 dX12_keyAt_71 rfl rfl rfl ?_
        refine e_iload_n (i := 3) 73 dX12_keyAt_72 rfl rfl rfl ?_
        refine e_iadd 74 dX12_keyAt_73 rfl ?_
        refine e_callF (av := [jI _]) 77 (i := 20) (by decide) mt_yJ_charAt mv_yJ_charAt wd_1410 (by decide) dX12_keyAt_74 rfl rfl rfl (Nat.le_of_ble_eq_true rfl) (jroom (by decide)) rfl (c_charAt (i := 20) (k := 22) (z := 105) (by decide) (by decide) (by decide +kernel) ?_)
        dsimp only [jpush]
        (try simp (disch := omega) only [put_r6, put_w6, put_r7, put_w7, put_r9, put_w9, put_r10, put_w10, put_r11, put_w11, put_r12, put_w12, put_r13, put_w13, put_r14, put_w14, put_r15, put_w15, put_ra, put_r8, put_r0, put_rt, put_wa, u1, u2, hn8])
        refine e_bipush 79 dX12_keyAt_77 (by decide) rfl ?_
        refine e_icmp_ne 82 97 dX12_keyAt_79 (by decide) (by decide) (by decide) rfl (fun _ => ?_) (fun h => absurd h (by decide))
        refine e_ls (ls2 := [(0, _), (1, _), (2, _)]) rfl ?_
        refine sk_4 (kk_5 hT hp hb ?_)
        rw [kx4, if_neg (fun q => by omega)] at h
        exact h
      · skip
        refine e_aload_n (i := 0) 42 dX12_keyAt_41 rfl rfl rfl ?_
        refine e_getr (j := 3) 45 fl_12_21 dX12_keyAt_42 at_928 rfl rfl tp_928_3 rfl ?_
        refine e_aload_n (i := 0) 46 dX12_keyAt_45 rfl rfl rfl ?_
        refine e_geti (j := 6) 49 fl_12_97 dX12_keyAt_46 at_928 (by decide) rfl rfl (fun r46 => ?_)
        simp (disch := omega) only [put_r6, put_w6, put_r7, put_w7, put_r9, put_w9, put_r10, put_w10, put_r11, put_w11, put_r12, put_w12, put_r13, put_w13, put_r14, put_w14, put_r15, put_w15, put_ra, put_r8, put_r0, put_rt, put_wa, u1, u2, hn8] at r46 ⊢
        refine e_iload_n (i := 3) 50 dX12_keyAt_49 rfl rfl rfl ?_
        refine e_iadd 51 dX12_keyAt_50 rfl ?_
        refine e_iald 52 dX12_keyAt_51 ar_931 (by omega) (by omega) rfl (fun r51 => ?_)
        simp (disch := omega) only [put_r6, put_w6, put_r7, put_w7, put_r9, put_w9, put_r10, put_w10, put_r11, put_w11, put_r12, put_w12, put_r13, put_w13, put_r14, put_w14, put_r15, put_w15, put_ra, put_r8, put_r0, put_rt, put_wa, u1, u2, hn8, Int.reduceAdd, Int.add_zero] at r51 ⊢
        refine e_ldcS 54 (i := 20) (by decide) rfl rfl dX12_keyAt_52 rfl ?_
        refine e_iload_n (i := 2) 55 dX12_keyAt_54 rfl rfl rfl ?_
        refine e_iload_n (i := 3) 56 dX12_keyAt_55 rfl rfl rfl ?_
        refine e_iadd 57 dX12_keyAt_56 rfl ?_
        refine e_callF (av := [jI _]) 60 (i := 20) (by decide) mt_yJ_charAt mv_yJ_charAt wd_1410 (by decide) dX12_keyAt_57 rfl rfl rfl (Nat.le_of_ble_eq_true rfl) (jroom (by decide)) rfl (c_charAt (i := 20) (k := 22) (z := 105) (by decide) (by decide) (by decide +kernel) ?_)
        dsimp only [jpush]
        (try simp (disch := omega) only [put_r6, put_w6, put_r7, put_w7, put_r9, put_w9, put_r10, put_w10, put_r11, put_w11, put_r12, put_w12, put_r13, put_w13, put_r14, put_w14, put_r15, put_w15, put_ra, put_r8, put_r0, put_rt, put_wa, u1, u2, hn8])
        refine e_icmp_ne 63 69 dX12_keyAt_60 (by omega) (by decide) (by decide) rfl (fun b60 => ?_) (fun b60 => ?_)
        · skip
          refine e_ldcS 71 (i := 20) (by decide) rfl rfl dX12_keyAt_69 rfl ?_
          refine e_iload_n (i := 2) 72 dX12_keyAt_71 rfl rfl rfl ?_
          refine e_iload_n (i := 3) 73 dX12_keyAt_72 rfl rfl rfl ?_
          refine e_iadd 74 dX12_keyAt_73 rfl ?_
          refine e_callF (av := [jI _]) 77 (i := 20) (by decide) mt_yJ_charAt mv_yJ_charAt wd_1410 (by decide) dX12_keyAt_74 rfl rfl rfl (Nat.le_of_ble_eq_true rfl) (jroom (by decide)) rfl (c_charAt (i := 20) (k := 22) (z := 105) (by decide) (by decide) (by decide +kernel) ?_)
          dsimp only [jpush]
          (try simp (disch := omega) only [put_r6, put_w6, put_r7, put_w7, put_r9, put_w9, put_r10, put_w10, put_r11, put_w11, put_r12, put_w12, put_r13, put_w13, put_r14, put_w14, put_r15, put_w15, put_ra, put_r8, put_r0, put_rt, put_wa, u1, u2, hn8])
          refine e_bipush 79 dX12_keyAt_77 (by decide) rfl ?_
          refine e_icmp_ne 82 97 dX12_keyAt_79 (by decide) (by decide) (by decide) rfl (fun _ => ?_) (fun h => absurd h (by decide))
          refine e_ls (ls2 := [(0, _), (1, _), (2, _)]) rfl ?_
          refine sk_4 (kk_5 hT hp hb ?_)
          rw [kx4, if_neg (fun q => by omega)] at h
          exact h
        · skip
          refine e_iinc (lsn := [(3, _), (0, _), (1, _), (2, _)]) 66 dX12_keyAt_63 rfl (by decide) rfl rfl ?_
          refine e_goto 15 dX12_keyAt_66 (by decide) ?_
          refine e_ldcS 17 (i := 20) (by decide) rfl rfl dX12_keyAt_15 rfl ?_
          refine e_iload_n (i := 2) 18 dX12_keyAt_17 rfl rfl rfl ?_
          refine e_iload_n (i := 3) 19 dX12_keyAt_18 rfl rfl rfl ?_
          refine e_iadd 20 dX12_keyAt_19 rfl ?_
          refine e_callF (av := [jI _]) 23 (i := 20) (by decide) mt_yJ_charAt mv_yJ_charAt wd_1410 (by decide) dX12_keyAt_20 rfl rfl rfl (Nat.le_of_ble_eq_true rfl) (jroom (by decide)) rfl (c_charAt (i := 20) (k := 23) (z := 99) (by decide) (by decide) (by decide +kernel) ?_)
          dsimp only [jpush]
          (try simp (disch := omega) only [put_r6, put_w6, put_r7, put_w7, put_r9, put_w9, put_r10, put_w10, put_r11, put_w11, put_r12, put_w12, put_r13, put_w13, put_r14, put_w14, put_r15, put_w15, put_ra, put_r8, put_r0, put_rt, put_wa, u1, u2, hn8])
          refine e_bipush 25 dX12_keyAt_23 (by decide) rfl ?_
          refine e_icmp_eq 28 69 dX12_keyAt_25 (by decide) (by decide) (by decide) rfl (fun h => absurd h (by decide)) (fun _ => ?_)
          refine e_aload_n (i := 0) 29 dX12_keyAt_28 rfl rfl rfl ?_
          refine e_geti (j := 6) 32 fl_12_97 dX12_keyAt_29 at_928 (by decide) rfl rfl (fun r29 => ?_)
          simp (disch := omega) only [put_r6, put_w6, put_r7, put_w7, put_r9, put_w9, put_r10, put_w10, put_r11, put_w11, put_r12, put_w12, put_r13, put_w13, put_r14, put_w14, put_r15, put_w15, put_ra, put_r8, put_r0, put_rt, put_wa, u1, u2, hn8] at r29 ⊢
          refine e_iload_n (i := 3) 33 dX12_keyAt_32 rfl rfl rfl ?_
          refine e_iadd 34 dX12_keyAt_33 rfl ?_
          refine e_aload_n (i := 0) 35 dX12_keyAt_34 rfl rfl rfl ?_
          refine e_geti (j := 7) 38 fl_12_100 dX12_keyAt_35 at_928 (by decide) rfl rfl (fun r35 => ?_)
          simp (disch := omega) only [put_r6, put_w6, put_r7, put_w7, put_r9, put_w9, put_r10, put_w10, put_r11, put_w11, put_r12, put_w12, put_r13, put_w13, put_r14, put_w14, put_r15, put_w15, put_ra, put_r8, put_r0, put_rt, put_wa, u1, u2, hn8] at r35 ⊢
          refine e_icmp_ge 41 69 dX12_keyAt_38 (by omega) (by omega) (by decide) rfl (fun b38 => ?_) (fun b38 => ?_)
          · skip
            refine e_ldcS 71 (i := 20) (by decide) rfl rfl dX12_keyAt_69 rfl ?_
            refine e_iload_n (i := 2) 72 dX12_keyAt_71 rfl rfl rfl ?_
            refine e_iload_n (i := 3) 73 dX12_keyAt_72 rfl rfl rfl ?_
            refine e_iadd 74 dX12_keyAt_73 rfl ?_
            refine e_callF (av := [jI _]) 77 (i := 20) (by decide) mt_yJ_charAt mv_yJ_charAt wd_1410 (by decide) dX12_keyAt_74 rfl rfl rfl (Nat.le_of_ble_eq_true rfl) (jroom (by decide)) rfl (c_charAt (i := 20) (k := 23) (z := 99) (by decide) (by decide) (by decide +kernel) ?_)
            dsimp only [jpush]
            (try simp (disch := omega) only [put_r6, put_w6, put_r7, put_w7, put_r9, put_w9, put_r10, put_w10, put_r11, put_w11, put_r12, put_w12, put_r13, put_w13, put_r14, put_w14, put_r15, put_w15, put_ra, put_r8, put_r0, put_rt, put_wa, u1, u2, hn8])
            refine e_bipush 79 dX12_keyAt_77 (by decide) rfl ?_
            refine e_icmp_ne 82 97 dX12_keyAt_79 (by decide) (by decide) (by decide) rfl (fun _ => ?_) (fun h => absurd h (by decide))
            refine e_ls (ls2 := [(0, _), (1, _), (2, _)]) rfl ?_
            refine sk_4 (kk_5 hT hp hb ?_)
            rw [kx4, if_neg (fun q => by omega)] at h
            exact h
          · skip
            refine e_aload_n (i := 0) 42 dX12_keyAt_41 rfl rfl rfl ?_
            refine e_getr (j := 3) 45 fl_12_21 dX12_keyAt_42 at_928 rfl rfl tp_928_3 rfl ?_
            refine e_aload_n (i := 0) 46 dX12_keyAt_45 rfl rfl rfl ?_
            refine e_geti (j := 6) 49 fl_12_97 dX12_keyAt_46 at_928 (by decide) rfl rfl (fun r46 => ?_)
            simp (disch := omega) only [put_r6, put_w6, put_r7, put_w7, put_r9, put_w9, put_r10, put_w10, put_r11, put_w11, put_r12, put_w12, put_r13, put_w13, put_r14, put_w14, put_r15, put_w15, put_ra, put_r8, put_r0, put_rt, put_wa, u1, u2, hn8] at r46 ⊢
            refine e_iload_n (i := 3) 50 dX12_keyAt_49 rfl rfl rfl ?_
            refine e_iadd 51 dX12_keyAt_50 rfl ?_
            refine e_iald 52 dX12_keyAt_51 ar_931 (by omega) (by omega) rfl (fun r51 => ?_)
            simp (disch := omega) only [put_r6, put_w6, put_r7, put_w7, put_r9, put_w9, put_r10, put_w10, put_r11, put_w11, put_r12, put_w12, put_r13, put_w13, put_r14, put_w14, put_r15, put_w15, put_ra, put_r8, put_r0, put_rt, put_wa, u1, u2, hn8, Int.reduceAdd, Int.add_zero] at r51 ⊢
            refine e_ldcS 54 (i := 20) (by decide) rfl rfl dX12_keyAt_52 rfl ?_
            refine e_iload_n (i := 2) 55 dX12_keyAt_54 rfl rfl rfl ?_
            refine e_iload_n (i := 3) 56 dX12_keyAt_55 rfl rfl rfl ?_
            refine e_iadd 57 dX12_keyAt_56 rfl ?_
            refine e_callF (av := [jI _]) 60 (i := 20) (by decide) mt_yJ_charAt mv_yJ_charAt wd_1410 (by decide) dX12_keyAt_57 rfl rfl rfl (Nat.le_of_ble_eq_true rfl) (jroom (by decide)) rfl (c_charAt (i := 20) (k := 23) (z := 99) (by decide) (by decide) (by decide +kernel) ?_)
            dsimp only [jpush]
            (try simp (disch := omega) only [put_r6, put_w6, put_r7, put_w7, put_r9, put_w9, put_r10, put_w10, put_r11, put_w11, put_r12, put_w12, put_r13, put_w13, put_r14, put_w14, put_r15, put_w15, put_ra, put_r8, put_r0, put_rt, put_wa, u1, u2, hn8])
            refine e_icmp_ne 63 69 dX12_keyAt_60 (by omega) (by decide) (by decide) rfl (fun b60 => ?_) (fun b60 => ?_)
            · skip
              refine e_ldcS 71 (i := 20) (by decide) rfl rfl dX12_keyAt_69 rfl ?_
              refine e_iload_n (i := 2) 72 dX12_keyAt_71 rfl rfl rfl ?_
              refine e_iload_n (i := 3) 73 dX12_keyAt_72 rfl rfl rfl ?_
              refine e_iadd 74 dX12_keyAt_73 rfl ?_
              refine e_callF (av := [jI _]) 77 (i := 20) (by decide) mt_yJ_charAt mv_yJ_charAt wd_1410 (by decide) dX12_keyAt_74 rfl rfl rfl (Nat.le_of_ble_eq_true rfl) (jroom (by decide)) rfl (c_charAt (i := 20) (k := 23) (z := 99) (by decide) (by decide) (by decide +kernel) ?_)
              dsimp only [jpush]
              (try simp (disch := omega) only [put_r6, put_w6, put_r7, put_w7, put_r9, put_w9, put_r10, put_w10, put_r11, put_w11, put_r12, put_w12, put_r13, put_w13, put_r14, put_w14, put_r15, put_w15, put_ra, put_r8, put_r0, put_rt, put_wa, u1, u2, hn8])
              refine e_bipush 79 dX12_keyAt_77 (by decide) rfl ?_
              refine e_icmp_ne 82 97 dX12_keyAt_79 (by decide) (by decide) (by decide) rfl (fun _ => ?_) (fun h => absurd h (by decide))
              refine e_ls (ls2 := [(0, _), (1, _), (2, _)]) rfl ?_
              refine sk_4 (kk_5 hT hp hb ?_)
              rw [kx4, if_neg (fun q => by omega)] at h
              exact h
            · skip
              refine e_iinc (lsn := [(3, _), (0, _), (1, _), (2, _)]) 66 dX12_keyAt_63 rfl (by decide) rfl rfl ?_
              refine e_goto 15 dX12_keyAt_66 (by decide) ?_
              refine e_ldcS 17 (i := 20) (by decide) rfl rfl dX12_keyAt_15 rfl ?_
              refine e_iload_n (i := 2) 18 dX12_keyAt_17 rfl rfl rfl ?_
              refine e_iload_n (i := 3) 19 dX12_keyAt_18 rfl rfl rfl ?_
              refine e_iadd 20 dX12_keyAt_19 rfl ?_
              refine e_callF (av := [jI _]) 23 (i := 20) (by decide) mt_yJ_charAt mv_yJ_charAt wd_1410 (by decide) dX12_keyAt_20 rfl rfl rfl (Nat.le_of_ble_eq_true rfl) (jroom (by decide)) rfl (c_charAt (i := 20) (k := 24) (z := 107) (by decide) (by decide) (by decide +kernel) ?_)
              dsimp only [jpush]
              (try simp (disch := omega) only [put_r6, put_w6, put_r7, put_w7, put_r9, put_w9, put_r10, put_w10, put_r11, put_w11, put_r12, put_w12, put_r13, put_w13, put_r14, put_w14, put_r15, put_w15, put_ra, put_r8, put_r0, put_rt, put_wa, u1, u2, hn8])
              refine e_bipush 25 dX12_keyAt_23 (by decide) rfl ?_
              refine e_icmp_eq 28 69 dX12_keyAt_25 (by decide) (by decide) (by decide) rfl (fun h => absurd h (by decide)) (fun _ => ?_)
              refine e_aload_n (i := 0) 29 dX12_keyAt_28 rfl rfl rfl ?_
              refine e_geti (j := 6) 32 fl_12_97 dX12_keyAt_29 at_928 (by decide) rfl rfl (fun r29 => ?_)
              simp (disch := omega) only [put_r6, put_w6, put_r7, put_w7, put_r9, put_w9, put_r10, put_w10, put_r11, put_w11, put_r12, put_w12, put_r13, put_w13, put_r14, put_w14, put_r15, put_w15, put_ra, put_r8, put_r0, put_rt, put_wa, u1, u2, hn8] at r29 ⊢
              refine e_iload_n (i := 3) 33 dX12_keyAt_32 rfl rfl rfl ?_
              refine e_iadd 34 dX12_keyAt_33 rfl ?_
              refine e_aload_n (i := 0) 35 dX12_keyAt_34 rfl rfl rfl ?_
              refine e_geti (j := 7) 38 fl_12_100 dX12_keyAt_35 at_928 (by decide) rfl rfl (fun r35 => ?_)
              simp (disch := omega) only [put_r6, put_w6, put_r7, put_w7, put_r9, put_w9, put_r10, put_w10, put_r11, put_w11, put_r12, put_w12, put_r13, put_w13, put_r14, put_w14, put_r15, put_w15, put_ra, put_r8, put_r0, put_rt, put_wa, u1, u2, hn8] at r35 ⊢
              refine e_icmp_ge 41 69 dX12_keyAt_38 (by omega) (by omega) (by decide) rfl (fun b38 => ?_) (fun b38 => ?_)
              · skip
                refine e_ldcS 71 (i := 20) (by decide) rfl rfl dX12_keyAt_69 rfl ?_
                refine e_iload_n (i := 2) 72 dX12_keyAt_71 rfl rfl rfl ?_
                refine e_iload_n (i := 3) 73 dX12_keyAt_72 rfl rfl rfl ?_
                refine e_iadd 74 dX12_keyAt_73 rfl ?_
                refine e_callF (av := [jI _]) 77 (i := 20) (by decide) mt_yJ_charAt mv_yJ_charAt wd_1410 (by decide) dX12_keyAt_74 rfl rfl rfl (Nat.le_of_ble_eq_true rfl) (jroom (by decide)) rfl (c_charAt (i := 20) (k := 24) (z := 107) (by decide) (by decide) (by decide +kernel) ?_)
                dsimp only [jpush]
                (try simp (disch := omega) only [put_r6, put_w6, put_r7, put_w7, put_r9, put_w9, put_r10, put_w10, put_r11, put_w11, put_r12, put_w12, put_r13, put_w13, put_r14, put_w14, put_r15, put_w15, put_ra, put_r8, put_r0, put_rt, put_wa, u1, u2, hn8])
                refine e_bipush 79 dX12_keyAt_77 (by decide) rfl ?_
                refine e_icmp_ne 82 97 dX12_keyAt_79 (by decide) (by decide) (by decide) rfl (fun _ => ?_) (fun h => absurd h (by decide))
                refine e_ls (ls2 := [(0, _), (1, _), (2, _)]) rfl ?_
                refine sk_4 (kk_5 hT hp hb ?_)
                rw [kx4, if_neg (fun q => by omega)] at h
                exact h
              · skip
                refine e_aload_n (i := 0) 42 dX12_keyAt_41 rfl rfl rfl ?_
                refine e_getr (j := 3) 45 fl_12_21 dX12_keyAt_42 at_928 rfl rfl tp_928_3 rfl ?_
                refine e_aload_n (i := 0) 46 dX12_keyAt_45 rfl rfl rfl ?_
                refine e_geti (j := 6) 49 fl_12_97 dX12_keyAt_46 at_928 (by decide) rfl rfl (fun r46 => ?_)
                simp (disch := omega) only [put_r6, put_w6, put_r7, put_w7, put_r9, put_w9, put_r10, put_w10, put_r11, put_w11, put_r12, put_w12, put_r13, put_w13, put_r14, put_w14, put_r15, put_w15, put_ra, put_r8, put_r0, put_rt, put_wa, u1, u2, hn8] at r46 ⊢
                refine e_iload_n (i := 3) 50 dX12_keyAt_49 rfl rfl rfl ?_
                refine e_iadd 51 dX12_keyAt_50 rfl ?_
                refine e_iald 52 dX12_keyAt_51 ar_931 (by omega) (by omega) rfl (fun r51 => ?_)
                simp (disch := omega) only [put_r6, put_w6, put_r7, put_w7, put_r9, put_w9, put_r10, put_w10, put_r11, put_w11, put_r12, put_w12, put_r13, put_w13, put_r14, put_w14, put_r15, put_w15, put_ra, put_r8, put_r0, put_rt, put_wa, u1, u2, hn8, Int.reduceAdd, Int.add_zero] at r51 ⊢
                refine e_ldcS 54 (i := 20) (by decide) rfl rfl dX12_keyAt_52 rfl ?_
                refine e_iload_n (i := 2) 55 dX12_keyAt_54 rfl rfl rfl ?_
                refine e_iload_n (i := 3) 56 dX12_keyAt_55 rfl rfl rfl ?_
                refine e_iadd 57 dX12_keyAt_56 rfl ?_
                refine e_callF (av := [jI _]) 60 (i := 20) (by decide) mt_yJ_charAt mv_yJ_charAt wd_1410 (by decide) dX12_keyAt_57 rfl rfl rfl (Nat.le_of_ble_eq_true rfl) (jroom (by decide)) rfl (c_charAt (i := 20) (k := 24) (z := 107) (by decide) (by decide) (by decide +kernel) ?_)
                dsimp only [jpush]
                (try simp (disch := omega) only [put_r6, put_w6, put_r7, put_w7, put_r9, put_w9, put_r10, put_w10, put_r11, put_w11, put_r12, put_w12, put_r13, put_w13, put_r14, put_w14, put_r15, put_w15, put_ra, put_r8, put_r0, put_rt, put_wa, u1, u2, hn8])
                refine e_icmp_ne 63 69 dX12_keyAt_60 (by omega) (by decide) (by decide) rfl (fun b60 => ?_) (fun b60 => ?_)
                · skip
                  refine e_ldcS 71 (i := 20) (by decide) rfl rfl dX12_keyAt_69 rfl ?_
                  refine e_iload_n (i := 2) 72 dX12_keyAt_71 rfl rfl rfl ?_
                  refine e_iload_n (i := 3) 73 dX12_keyAt_72 rfl rfl rfl ?_
                  refine e_iadd 74 dX12_keyAt_73 rfl ?_
                  refine e_callF (av := [jI _]) 77 (i := 20) (by decide) mt_yJ_charAt mv_yJ_charAt wd_1410 (by decide) dX12_keyAt_74 rfl rfl rfl (Nat.le_of_ble_eq_true rfl) (jroom (by decide)) rfl (c_charAt (i := 20) (k := 24) (z := 107) (by decide) (by decide) (by decide +kernel) ?_)
                  dsimp only [jpush]
                  (try simp (disch := omega) only [put_r6, put_w6, put_r7, put_w7, put_r9, put_w9, put_r10, put_w10, put_r11, put_w11, put_r12, put_w12, put_r13, put_w13, put_r14, put_w14, put_r15, put_w15, put_ra, put_r8, put_r0, put_rt, put_wa, u1, u2, hn8])
                  refine e_bipush 79 dX12_keyAt_77 (by decide) rfl ?_
                  refine e_icmp_ne 82 97 dX12_keyAt_79 (by decide) (by decide) (by decide) rfl (fun _ => ?_) (fun h => absurd h (by decide))
                  refine e_ls (ls2 := [(0, _), (1, _), (2, _)]) rfl ?_
                  refine sk_4 (kk_5 hT hp hb ?_)
                  rw [kx4, if_neg (fun q => by omega)] at h
                  exact h
                · skip
                  refine e_iinc (lsn := [(3, _), (0, _), (1, _), (2, _)]) 66 dX12_keyAt_63 rfl (by decide) rfl rfl ?_
                  refine e_goto 15 dX12_keyAt_66 (by decide) ?_
                  refine e_ldcS 17 (i := 20) (by decide) rfl rfl dX12_keyAt_15 rfl ?_
                  refine e_iload_n (i := 2) 18 dX12_keyAt_17 rfl rfl rfl ?_
                  refine e_iload_n (i := 3) 19 dX12_keyAt_18 rfl rfl rfl ?_
                  refine e_iadd 20 dX12_keyAt_19 rfl ?_
                  refine e_callF (av := [jI _]) 23 (i := 20) (by decide) mt_yJ_charAt mv_yJ_charAt wd_1410 (by decide) dX12_keyAt_20 rfl rfl rfl (Nat.le_of_ble_eq_true rfl) (jroom (by decide)) rfl (c_charAt (i := 20) (k := 25) (z := 101) (by decide) (by decide) (by decide +kernel) ?_)
                  dsimp only [jpush]
                  (try simp (disch := omega) only [put_r6, put_w6, put_r7, put_w7, put_r9, put_w9, put_r10, put_w10, put_r11, put_w11, put_r12, put_w12, put_r13, put_w13, put_r14, put_w14, put_r15, put_w15, put_ra, put_r8, put_r0, put_rt, put_wa, u1, u2, hn8])
                  refine e_bipush 25 dX12_keyAt_23 (by decide) rfl ?_
                  refine e_icmp_eq 28 69 dX12_keyAt_25 (by decide) (by decide) (by decide) rfl (fun h => absurd h (by decide)) (fun _ => ?_)
                  refine e_aload_n (i := 0) 29 dX12_keyAt_28 rfl rfl rfl ?_
                  refine e_geti (j := 6) 32 fl_12_97 dX12_keyAt_29 at_928 (by decide) rfl rfl (fun r29 => ?_)
                  simp (disch := omega) only [put_r6, put_w6, put_r7, put_w7, put_r9, put_w9, put_r10, put_w10, put_r11, put_w11, put_r12, put_w12, put_r13, put_w13, put_r14, put_w14, put_r15, put_w15, put_ra, put_r8, put_r0, put_rt, put_wa, u1, u2, hn8] at r29 ⊢
                  refine e_iload_n (i := 3) 33 dX12_keyAt_32 rfl rfl rfl ?_
                  refine e_iadd 34 dX12_keyAt_33 rfl ?_
                  refine e_aload_n (i := 0) 35 dX12_keyAt_34 rfl rfl rfl ?_
                  refine e_geti (j := 7) 38 fl_12_100 dX12_keyAt_35 at_928 (by decide) rfl rfl (fun r35 => ?_)
                  simp (disch := omega) only [put_r6, put_w6, put_r7, put_w7, put_r9, put_w9, put_r10, put_w10, put_r11, put_w11, put_r12, put_w12, put_r13, put_w13, put_r14, put_w14, put_r15, put_w15, put_ra, put_r8, put_r0, put_rt, put_wa, u1, u2, hn8] at r35 ⊢
                  refine e_icmp_ge 41 69 dX12_keyAt_38 (by omega) (by omega) (by decide) rfl (fun b38 => ?_) (fun b38 => ?_)
                  · skip
                    refine e_ldcS 71 (i := 20) (by decide) rfl rfl dX12_keyAt_69 rfl ?_
                    refine e_iload_n (i := 2) 72 dX12_keyAt_71 rfl rfl rfl ?_
                    refine e_iload_n (i := 3) 73 dX12_keyAt_72 rfl rfl rfl ?_
                    refine e_iadd 74 dX12_keyAt_73 rfl ?_
                    refine e_callF (av := [jI _]) 77 (i := 20) (by decide) mt_yJ_charAt mv_yJ_charAt wd_1410 (by decide) dX12_keyAt_74 rfl rfl rfl (Nat.le_of_ble_eq_true rfl) (jroom (by decide)) rfl (c_charAt (i := 20) (k := 25) (z := 101) (by decide) (by decide) (by decide +kernel) ?_)
                    dsimp only [jpush]
                    (try simp (disch := omega) only [put_r6, put_w6, put_r7, put_w7, put_r9, put_w9, put_r10, put_w10, put_r11, put_w11, put_r12, put_w12, put_r13, put_w13, put_r14, put_w14, put_r15, put_w15, put_ra, put_r8, put_r0, put_rt, put_wa, u1, u2, hn8])
                    refine e_bipush 79 dX12_keyAt_77 (by decide) rfl ?_
                    refine e_icmp_ne 82 97 dX12_keyAt_79 (by decide) (by decide) (by decide) rfl (fun _ => ?_) (fun h => absurd h (by decide))
                    refine e_ls (ls2 := [(0, _), (1, _), (2, _)]) rfl ?_
                    refine sk_4 (kk_5 hT hp hb ?_)
                    rw [kx4, if_neg (fun q => by omega)] at h
                    exact h
                  · skip
                    refine e_aload_n (i := 0) 42 dX12_keyAt_41 rfl rfl rfl ?_
                    refine e_getr (j := 3) 45 fl_12_21 dX12_keyAt_42 at_928 rfl rfl tp_928_3 rfl ?_
                    refine e_aload_n (i := 0) 46 dX12_keyAt_45 rfl rfl rfl ?_
                    refine e_geti (j := 6) 49 fl_12_97 dX12_keyAt_46 at_928 (by decide) rfl rfl (fun r46 => ?_)
                    simp (disch := omega) only [put_r6, put_w6, put_r7, put_w7, put_r9, put_w9, put_r10, put_w10, put_r11, put_w11, put_r12, put_w12, put_r13, put_w13, put_r14, put_w14, put_r15, put_w15, put_ra, put_r8, put_r0, put_rt, put_wa, u1, u2, hn8] at r46 ⊢
                    refine e_iload_n (i := 3) 50 dX12_keyAt_49 rfl rfl rfl ?_
                    refine e_iadd 51 dX12_keyAt_50 rfl ?_
                    refine e_iald 52 dX12_keyAt_51 ar_931 (by omega) (by omega) rfl (fun r51 => ?_)
                    simp (disch := omega) only [put_r6, put_w6, put_r7, put_w7, put_r9, put_w9, put_r10, put_w10, put_r11, put_w11, put_r12, put_w12, put_r13, put_w13, put_r14, put_w14, put_r15, put_w15, put_ra, put_r8, put_r0, put_rt, put_wa, u1, u2, hn8, Int.reduceAdd, Int.add_zero] at r51 ⊢
                    refine e_ldcS 54 (i := 20) (by decide) rfl rfl dX12_keyAt_52 rfl ?_
                    refine e_iload_n (i := 2) 55 dX12_keyAt_54 rfl rfl rfl ?_
                    refine e_iload_n (i := 3) 56 dX12_keyAt_55 rfl rfl rfl ?_
                    refine e_iadd 57 dX12_keyAt_56 rfl ?_
                    refine e_callF (av := [jI _]) 60 (i := 20) (by decide) mt_yJ_charAt mv_yJ_charAt wd_1410 (by decide) dX12_keyAt_57 rfl rfl rfl (Nat.le_of_ble_eq_true rfl) (jroom (by decide)) rfl (c_charAt (i := 20) (k := 25) (z := 101) (by decide) (by decide) (by decide +kernel) ?_)
                    dsimp only [jpush]
                    (try simp (disch := omega) only [put_r6, put_w6, put_r7, put_w7, put_r9, put_w9, put_r10, put_w10, put_r11, put_w11, put_r12, put_w12, put_r13, put_w13, put_r14, put_w14, put_r15, put_w15, put_ra, put_r8, put_r0, put_rt, put_wa, u1, u2, hn8])
                    refine e_icmp_ne 63 69 dX12_keyAt_60 (by omega) (by decide) (by decide) rfl (fun b60 => ?_) (fun b60 => ?_)
                    · skip
                      refine e_ldcS 71 (i := 20) (by decide) rfl rfl dX12_keyAt_69 rfl ?_
                      refine e_iload_n (i := 2) 72 dX12_keyAt_71 rfl rfl rfl ?_
                      refine e_iload_n (i := 3) 73 dX12_keyAt_72 rfl rfl rfl ?_
                      refine e_iadd 74 dX12_keyAt_73 rfl ?_
                      refine e_callF (av := [jI _]) 77 (i := 20) (by decide) mt_yJ_charAt mv_yJ_charAt wd_1410 (by decide) dX12_keyAt_74 rfl rfl rfl (Nat.le_of_ble_eq_true rfl) (jroom (by decide)) rfl (c_charAt (i := 20) (k := 25) (z := 101) (by decide) (by decide) (by decide +kernel) ?_)
                      dsimp only [jpush]
                      (try simp (disch := omega) only [put_r6, put_w6, put_r7, put_w7, put_r9, put_w9, put_r10, put_w10, put_r11, put_w11, put_r12, put_w12, put_r13, put_w13, put_r14, put_w14, put_r15, put_w15, put_ra, put_r8, put_r0, put_rt, put_wa, u1, u2, hn8])
                      refine e_bipush 79 dX12_keyAt_77 (by decide) rfl ?_
                      refine e_icmp_ne 82 97 dX12_keyAt_79 (by decide) (by decide) (by decide) rfl (fun _ => ?_) (fun h => absurd h (by decide))
                      refine e_ls (ls2 := [(0, _), (1, _), (2, _)]) rfl ?_
                      refine sk_4 (kk_5 hT hp hb ?_)
                      rw [kx4, if_neg (fun q => by omega)] at h
                      exact h
                    · skip
                      refine e_iinc (lsn := [(3, _), (0, _), (1, _), (2, _)]) 66 dX12_keyAt_63 rfl (by decide) rfl rfl ?_
                      refine e_goto 15 dX12_keyAt_66 (by decide) ?_
                      refine e_ldcS 17 (i := 20) (by decide) rfl rfl dX12_keyAt_15 rfl ?_
                      refine e_iload_n (i := 2) 18 dX12_keyAt_17 rfl rfl rfl ?_
                      refine e_iload_n (i := 3) 19 dX12_keyAt_18 rfl rfl rfl ?_
                      refine e_iadd 20 dX12_keyAt_19 rfl ?_
                      refine e_callF (av := [jI _]) 23 (i := 20) (by decide) mt_yJ_charAt mv_yJ_charAt wd_1410 (by decide) dX12_keyAt_20 rfl rfl rfl (Nat.le_of_ble_eq_true rfl) (jroom (by decide)) rfl (c_charAt (i := 20) (k := 26) (z := 116) (by decide) (by decide) (by decide +kernel) ?_)
                      dsimp only [jpush]
                      (try simp (disch := omega) only [put_r6, put_w6, put_r7, put_w7, put_r9, put_w9, put_r10, put_w10, put_r11, put_w11, put_r12, put_w12, put_r13, put_w13, put_r14, put_w14, put_r15, put_w15, put_ra, put_r8, put_r0, put_rt, put_wa, u1, u2, hn8])
                      refine e_bipush 25 dX12_keyAt_23 (by decide) rfl ?_
                      refine e_icmp_eq 28 69 dX12_keyAt_25 (by decide) (by decide) (by decide) rfl (fun h => absurd h (by decide)) (fun _ => ?_)
                      refine e_aload_n (i := 0) 29 dX12_keyAt_28 rfl rfl rfl ?_
                      refine e_geti (j := 6) 32 fl_12_97 dX12_keyAt_29 at_928 (by decide) rfl rfl (fun r29 => ?_)
                      simp (disch := omega) only [put_r6, put_w6, put_r7, put_w7, put_r9, put_w9, put_r10, put_w10, put_r11, put_w11, put_r12, put_w12, put_r13, put_w13, put_r14, put_w14, put_r15, put_w15, put_ra, put_r8, put_r0, put_rt, put_wa, u1, u2, hn8] at r29 ⊢
                      refine e_iload_n (i := 3) 33 dX12_keyAt_32 rfl rfl rfl ?_
                      refine e_iadd 34 dX12_keyAt_33 rfl ?_
                      refine e_aload_n (i := 0) 35 dX12_keyAt_34 rfl rfl rfl ?_
                      refine e_geti (j := 7) 38 fl_12_100 dX12_keyAt_35 at_928 (by decide) rfl rfl (fun r35 => ?_)
                      simp (disch := omega) only [put_r6, put_w6, put_r7, put_w7, put_r9, put_w9, put_r10, put_w10, put_r11, put_w11, put_r12, put_w12, put_r13, put_w13, put_r14, put_w14, put_r15, put_w15, put_ra, put_r8, put_r0, put_rt, put_wa, u1, u2, hn8] at r35 ⊢
                      refine e_icmp_ge 41 69 dX12_keyAt_38 (by omega) (by omega) (by decide) rfl (fun b38 => ?_) (fun b38 => ?_)
                      · skip
                        refine e_ldcS 71 (i := 20) (by decide) rfl rfl dX12_keyAt_69 rfl ?_
                        refine e_iload_n (i := 2) 72 dX12_keyAt_71 rfl rfl rfl ?_
                        refine e_iload_n (i := 3) 73 dX12_keyAt_72 rfl rfl rfl ?_
                        refine e_iadd 74 dX12_keyAt_73 rfl ?_
                        refine e_callF (av := [jI _]) 77 (i := 20) (by decide) mt_yJ_charAt mv_yJ_charAt wd_1410 (by decide) dX12_keyAt_74 rfl rfl rfl (Nat.le_of_ble_eq_true rfl) (jroom (by decide)) rfl (c_charAt (i := 20) (k := 26) (z := 116) (by decide) (by decide) (by decide +kernel) ?_)
                        dsimp only [jpush]
                        (try simp (disch := omega) only [put_r6, put_w6, put_r7, put_w7, put_r9, put_w9, put_r10, put_w10, put_r11, put_w11, put_r12, put_w12, put_r13, put_w13, put_r14, put_w14, put_r15, put_w15, put_ra, put_r8, put_r0, put_rt, put_wa, u1, u2, hn8])
                        refine e_bipush 79 dX12_keyAt_77 (by decide) rfl ?_
                        refine e_icmp_ne 82 97 dX12_keyAt_79 (by decide) (by decide) (by decide) rfl (fun _ => ?_) (fun h => absurd h (by decide))
                        refine e_ls (ls2 := [(0, _), (1, _), (2, _)]) rfl ?_
                        refine sk_4 (kk_5 hT hp hb ?_)
                        rw [kx4, if_neg (fun q => by omega)] at h
                        exact h
                      · skip
                        refine e_aload_n (i := 0) 42 dX12_keyAt_41 rfl rfl rfl ?_
                        refine e_getr (j := 3) 45 fl_12_21 dX12_keyAt_42 at_928 rfl rfl tp_928_3 rfl ?_
                        refine e_aload_n (i := 0) 46 dX12_keyAt_45 rfl rfl rfl ?_
                        refine e_geti (j := 6) 49 fl_12_97 dX12_keyAt_46 at_928 (by decide) rfl rfl (fun r46 => ?_)
                        simp (disch := omega) only [put_r6, put_w6, put_r7, put_w7, put_r9, put_w9, put_r10, put_w10, put_r11, put_w11, put_r12, put_w12, put_r13, put_w13, put_r14, put_w14, put_r15, put_w15, put_ra, put_r8, put_r0, put_rt, put_wa, u1, u2, hn8] at r46 ⊢
                        refine e_iload_n (i := 3) 50 dX12_keyAt_49 rfl rfl rfl ?_
                        refine e_iadd 51 dX12_keyAt_50 rfl ?_
                        refine e_iald 52 dX12_keyAt_51 ar_931 (by omega) (by omega) rfl (fun r51 => ?_)
                        simp (disch := omega) only [put_r6, put_w6, put_r7, put_w7, put_r9, put_w9, put_r10, put_w10, put_r11, put_w11, put_r12, put_w12, put_r13, put_w13, put_r14, put_w14, put_r15, put_w15, put_ra, put_r8, put_r0, put_rt, put_wa, u1, u2, hn8, Int.reduceAdd, Int.add_zero] at r51 ⊢
                        refine e_ldcS 54 (i := 20) (by decide) rfl rfl dX12_keyAt_52 rfl ?_
                        refine e_iload_n (i := 2) 55 dX12_keyAt_54 rfl rfl rfl ?_
                        refine e_iload_n (i := 3) 56 dX12_keyAt_55 rfl rfl rfl ?_
                        refine e_iadd 57 dX12_keyAt_56 rfl ?_
                        refine e_callF (av := [jI _]) 60 (i := 20) (by decide) mt_yJ_charAt mv_yJ_charAt wd_1410 (by decide) dX12_keyAt_57 rfl rfl rfl (Nat.le_of_ble_eq_true rfl) (jroom (by decide)) rfl (c_charAt (i := 20) (k := 26) (z := 116) (by decide) (by decide) (by decide +kernel) ?_)
                        dsimp only [jpush]
                        (try simp (disch := omega) only [put_r6, put_w6, put_r7, put_w7, put_r9, put_w9, put_r10, put_w10, put_r11, put_w11, put_r12, put_w12, put_r13, put_w13, put_r14, put_w14, put_r15, put_w15, put_ra, put_r8, put_r0, put_rt, put_wa, u1, u2, hn8])
                        refine e_icmp_ne 63 69 dX12_keyAt_60 (by omega) (by decide) (by decide) rfl (fun b60 => ?_) (fun b60 => ?_)
                        · skip
                          refine e_ldcS 71 (i := 20) (by decide) rfl rfl dX12_keyAt_69 rfl ?_
                          refine e_iload_n (i := 2) 72 dX12_keyAt_71 rfl rfl rfl ?_
                          refine e_iload_n (i := 3) 73 dX12_keyAt_72 rfl rfl rfl ?_
                          refine e_iadd 74 dX12_keyAt_73 rfl ?_
                          refine e_callF (av := [jI _]) 77 (i := 20) (by decide) mt_yJ_charAt mv_yJ_charAt wd_1410 (by decide) dX12_keyAt_74 rfl rfl rfl (Nat.le_of_ble_eq_true rfl) (jroom (by decide)) rfl (c_charAt (i := 20) (k := 26) (z := 116) (by decide) (by decide) (by decide +kernel) ?_)
                          dsimp only [jpush]
                          (try simp (disch := omega) only [put_r6, put_w6, put_r7, put_w7, put_r9, put_w9, put_r10, put_w10, put_r11, put_w11, put_r12, put_w12, put_r13, put_w13, put_r14, put_w14, put_r15, put_w15, put_ra, put_r8, put_r0, put_rt, put_wa, u1, u2, hn8])
                          refine e_bipush 79 dX12_keyAt_77 (by decide) rfl ?_
                          refine e_icmp_ne 82 97 dX12_keyAt_79 (by decide) (by decide) (by decide) rfl (fun _ => ?_) (fun h => absurd h (by decide))
                          refine e_ls (ls2 := [(0, _), (1, _), (2, _)]) rfl ?_
                          refine sk_4 (kk_5 hT hp hb ?_)
                          rw [kx4, if_neg (fun q => by omega)] at h
                          exact h
                        · skip
                          refine e_iinc (lsn := [(3, _), (0, _), (1, _), (2, _)]) 66 dX12_keyAt_63 rfl (by decide) rfl rfl ?_
                          refine e_goto 15 dX12_keyAt_66 (by decide) ?_
                          refine e_ldcS 17 (i := 20) (by decide) rfl rfl dX12_keyAt_15 rfl ?_
                          refine e_iload_n (i := 2) 18 dX12_keyAt_17 rfl rfl rfl ?_
                          refine e_iload_n (i := 3) 19 dX12_keyAt_18 rfl rfl rfl ?_
                          refine e_iadd 20 dX12_keyAt_19 rfl ?_
                          refine e_callF (av := [jI _]) 23 (i := 20) (by decide) mt_yJ_charAt mv_yJ_charAt wd_1410 (by decide) dX12_keyAt_20 rfl rfl rfl (Nat.le_of_ble_eq_true rfl) (jroom (by decide)) rfl (c_charAt (i := 20) (k := 27) (z := 32) (by decide) (by decide) (by decide +kernel) ?_)
                          dsimp only [jpush]
                          (try simp (disch := omega) only [put_r6, put_w6, put_r7, put_w7, put_r9, put_w9, put_r10, put_w10, put_r11, put_w11, put_r12, put_w12, put_r13, put_w13, put_r14, put_w14, put_r15, put_w15, put_ra, put_r8, put_r0, put_rt, put_wa, u1, u2, hn8])
                          refine e_bipush 25 dX12_keyAt_23 (by decide) rfl ?_
                          refine e_icmp_eq 28 69 dX12_keyAt_25 (by decide) (by decide) (by decide) rfl (fun _ => ?_) (fun h => absurd h (by decide))
                          refine e_ldcS 71 (i := 20) (by decide) rfl rfl dX12_keyAt_69 rfl ?_
                          refine e_iload_n (i := 2) 72 dX12_keyAt_71 rfl rfl rfl ?_
                          refine e_iload_n (i := 3) 73 dX12_keyAt_72 rfl rfl rfl ?_
                          refine e_iadd 74 dX12_keyAt_73 rfl ?_
                          refine e_callF (av := [jI _]) 77 (i := 20) (by decide) mt_yJ_charAt mv_yJ_charAt wd_1410 (by decide) dX12_keyAt_74 rfl rfl rfl (Nat.le_of_ble_eq_true rfl) (jroom (by decide)) rfl (c_charAt (i := 20) (k := 27) (z := 32) (by decide) (by decide) (by decide +kernel) ?_)
                          dsimp only [jpush]
                          (try simp (disch := omega) only [put_r6, put_w6, put_r7, put_w7, put_r9, put_w9, put_r10, put_w10, put_r11, put_w11, put_r12, put_w12, put_r13, put_w13, put_r14, put_w14, put_r15, put_w15, put_ra, put_r8, put_r0, put_rt, put_wa, u1, u2, hn8])
                          refine e_bipush 79 dX12_keyAt_77 (by decide) rfl ?_
                          refine e_icmp_ne 82 97 dX12_keyAt_79 (by decide) (by decide) (by decide) rfl (fun h => absurd h (by decide)) (fun _ => ?_)
                          refine e_aload_n (i := 0) 83 dX12_keyAt_82 rfl rfl rfl ?_
                          refine e_geti (j := 6) 86 fl_12_97 dX12_keyAt_83 at_928 (by decide) rfl rfl (fun r83 => ?_)
                          simp (disch := omega) only [put_r6, put_w6, put_r7, put_w7, put_r9, put_w9, put_r10, put_w10, put_r11, put_w11, put_r12, put_w12, put_r13, put_w13, put_r14, put_w14, put_r15, put_w15, put_ra, put_r8, put_r0, put_rt, put_wa, u1, u2, hn8] at r83 ⊢
                          refine e_iload_n (i := 3) 87 dX12_keyAt_86 rfl rfl rfl ?_
                          refine e_iadd 88 dX12_keyAt_87 rfl ?_
                          refine e_aload_n (i := 0) 89 dX12_keyAt_88 rfl rfl rfl ?_
                          refine e_geti (j := 7) 92 fl_12_100 dX12_keyAt_89 at_928 (by decide) rfl rfl (fun r89 => ?_)
                          simp (disch := omega) only [put_r6, put_w6, put_r7, put_w7, put_r9, put_w9, put_r10, put_w10, put_r11, put_w11, put_r12, put_w12, put_r13, put_w13, put_r14, put_w14, put_r15, put_w15, put_ra, put_r8, put_r0, put_rt, put_wa, u1, u2, hn8] at r89 ⊢
                          refine e_icmp_ne 95 97 dX12_keyAt_92 (by omega) (by omega) (by decide) rfl (fun b92 => ?_) (fun b92 => ?_)
                          · skip
                            refine e_ls (ls2 := [(0, _), (1, _), (2, _)]) rfl ?_
                            refine sk_4 (kk_5 hT hp hb ?_)
                            rw [kx4, if_neg (fun q => by omega)] at h
                            exact h
                          · skip
                            refine e_iload_n (i := 1) 96 dX12_keyAt_95 rfl rfl rfl ?_
                            refine e_iret dX12_keyAt_96 ?_
                            rw [kx4, if_pos (by omega)] at h
                            exact h

theorem sk_3 {X : jX} {Y : jM} {Q : Int → jM → Prop} (h : jE X yX12_keyAt cX12_keyAt 4 (some .int) 5 Q Y 4 [(0, jR 928), (1, jI 4), (2, jI 21)] []) : jE X yX12_keyAt cX12_keyAt 4 (some .int) 5 Q Y 97 [(0, jR 928), (1, jI 3), (2, jI 15)] [] := by
  refine e_ldcS 99 (i := 20) (by decide) rfl rfl dX12_keyAt_97 rfl ?_
  refine e_iload_n (i := 2) 100 dX12_keyAt_99 rfl rfl rfl ?_
  refine e_callF (av := [jI _]) 103 (i := 20) (by decide) mt_yJ_charAt mv_yJ_charAt wd_1410 (by decide) dX12_keyAt_100 rfl rfl rfl (Nat.le_of_ble_eq_true rfl) (jroom (by decide)) rfl (c_charAt (i := 20) (k := 15) (z := 108) (by decide) (by decide) (by decide +kernel) ?_)
  dsimp only [jpush]
  refine e_bipush 105 dX12_keyAt_103 (by decide) rfl ?_
  refine e_icmp_eq 108 114 dX12_keyAt_105 (by decide) (by decide) (by decide) rfl (fun h => absurd h (by decide)) (fun _ => ?_)
  refine e_iinc (lsn := [(2, _), (0, _), (1, _)]) 111 dX12_keyAt_108 rfl (by decide) rfl rfl ?_
  refine e_goto 97 dX12_keyAt_111 (by decide) ?_
  refine e_ldcS 99 (i := 20) (by decide) rfl rfl dX12_keyAt_97 rfl ?_
  refine e_iload_n (i := 2) 100 dX12_keyAt_99 rfl rfl rfl ?_
  refine e_callF (av := [jI _]) 103 (i := 20) (by decide) mt_yJ_charAt mv_yJ_charAt wd_1410 (by decide) dX12_keyAt_100 rfl rfl rfl (Nat.le_of_ble_eq_true rfl) (jroom (by decide)) rfl (c_charAt (i := 20) (k := 16) (z := 101) (by decide) (by decide) (by decide +kernel) ?_)
  dsimp only [jpush]
  refine e_bipush 105 dX12_keyAt_103 (by decide) rfl ?_
  refine e_icmp_eq 108 114 dX12_keyAt_105 (by decide) (by decide) (by decide) rfl (fun h => absurd h (by decide)) (fun _ => ?_)
  refine e_iinc (lsn := [(2, _), (0, _), (1, _)]) 111 dX12_keyAt_108 rfl (by decide) rfl rfl ?_
  refine e_goto 97 dX12_keyAt_111 (by decide) ?_
  refine e_ldcS 99 (i := 20) (by decide) rfl rfl dX12_keyAt_97 rfl ?_
  refine e_iload_n (i := 2) 100 dX12_keyAt_99 rfl rfl rfl ?_
  refine e_callF (av := [jI _]) 103 (i := 20) (by decide) mt_yJ_charAt mv_yJ_charAt wd_1410 (by decide) dX12_keyAt_100 rfl rfl rfl (Nat.le_of_ble_eq_true rfl) (jroom (by decide)) rfl (c_charAt (i := 20) (k := 17) (z := 97) (by decide) (by decide) (by decide +kernel) ?_)
  dsimp only [jpush]
  refine e_bipush 105 dX12_keyAt_103 (by decide) rfl ?_
  refine e_icmp_eq 108 114 dX12_keyAt_105 (by decide) (by decide) (by decide) rfl (fun h => absurd h (by decide)) (fun _ => ?_)
  refine e_iinc (lsn := [(2, _), (0, _), (1, _)]) 111 dX12_keyAt_108 rfl (by decide) rfl rfl ?_
  refine e_goto 97 dX12_keyAt_111 (by decide) ?_
  refine e_ldcS 99 (i := 20) (by decide) rfl rfl dX12_keyAt_97 rfl ?_
  refine e_iload_n (i := 2) 100 dX12_keyAt_99 rfl rfl rfl ?_
  refine e_callF (av := [jI _]) 103 (i := 20) (by decide) mt_yJ_charAt mv_yJ_charAt wd_1410 (by decide) dX12_keyAt_100 rfl rfl rfl (Nat.le_of_ble_eq_true rfl) (jroom (by decide)) rfl (c_charAt (i := 20) (k := 18) (z := 115) (by decide) (by decide) (by decide +kernel) ?_)
  dsimp only [jpush]
  refine e_bipush 105 dX12_keyAt_103 (by decide) rfl ?_
  refine e_icmp_eq 108 114 dX12_keyAt_105 (by decide) (by decide) (by decide) rfl (fun h => absurd h (by decide)) (fun _ => ?_)
  refine e_iinc (lsn := [(2, _), (0, _), (1, _)]) 111 dX12_keyAt_108 rfl (by decide) rfl rfl ?_
  refine e_goto 97 dX12_keyAt_111 (by decide) ?_
  refine e_ldcS 99 (i := 20) (by decide) rfl rfl dX12_keyAt_97 rfl ?_
  refine e_iload_n (i := 2) 100 dX12_keyAt_99 rfl rfl rfl ?_
  refine e_callF (av := [jI _]) 103 (i := 20) (by decide) mt_yJ_charAt mv_yJ_charAt wd_1410 (by decide) dX12_keyAt_100 rfl rfl rfl (Nat.le_of_ble_eq_true rfl) (jroom (by decide)) rfl (c_charAt (i := 20) (k := 19) (z := 116) (by decide) (by decide) (by decide +kernel) ?_)
  dsimp only [jpush]
  refine e_bipush 105 dX12_keyAt_103 (by decide) rfl ?_
  refine e_icmp_eq 108 114 dX12_keyAt_105 (by decide) (by decide) (by decide) rfl (fun h => absurd h (by decide)) (fun _ => ?_)
  refine e_iinc (lsn := [(2, _), (0, _), (1, _)]) 111 dX12_keyAt_108 rfl (by decide) rfl rfl ?_
  refine e_goto 97 dX12_keyAt_111 (by decide) ?_
  refine e_ldcS 99 (i := 20) (by decide) rfl rfl dX12_keyAt_97 rfl ?_
  refine e_iload_n (i := 2) 100 dX12_keyAt_99 rfl rfl rfl ?_
  refine e_callF (av := [jI _]) 103 (i := 20) (by decide) mt_yJ_charAt mv_yJ_charAt wd_1410 (by decide) dX12_keyAt_100 rfl rfl rfl (Nat.le_of_ble_eq_true rfl) (jroom (by decide)) rfl (c_charAt (i := 20) (k := 20) (z := 32) (by decide) (by decide) (by decide +kernel) ?_)
  dsimp only [jpush]
  refine e_bipush 105 dX12_keyAt_103 (by decide) rfl ?_
  refine e_icmp_eq 108 114 dX12_keyAt_105 (by decide) (by decide) (by decide) rfl (fun _ => ?_) (fun h => absurd h (by decide))
  refine e_iinc (lsn := [(2, _), (0, _), (1, _)]) 117 dX12_keyAt_114 rfl (by decide) rfl rfl ?_
  refine e_iinc (lsn := [(1, _), (2, _), (0, _)]) 120 dX12_keyAt_117 rfl (by decide) rfl rfl ?_
  refine e_goto 4 dX12_keyAt_120 (by decide) ?_
  refine e_ls (ls2 := [(0, _), (1, _), (2, _)]) rfl ?_
  exact h

theorem kk_3 {X : jX} {M : jM} {n : Int} {Q : Int → jM → Prop} (hT : RT M n) {s : PS} (hp : 0 ≤ s.1) (hb : s.1 ≤ s.2.1 ∧ s.2.1 ≤ n) (h : Q (kx3 (M 931) s.1 s.2.1) (put M s)) : jE X yX12_keyAt cX12_keyAt 4 (some .int) 5 Q (put M s) 4 [(0, jR 928), (1, jI 3), (2, jI 15)] [] := by
  have hn8 := hT.1
  have hn := hT.2.1
  refine e_iload_n (i := 2) 5 dX12_keyAt_4 rfl rfl rfl ?_
  refine e_ldcS 7 (i := 20) (by decide) rfl rfl dX12_keyAt_5 rfl ?_
  refine e_callF (av := []) 10 (i := 20) (by decide) mt_yJ_len mv_yJ_len wd_1409 (by decide) dX12_keyAt_7 rfl rfl rfl (Nat.le_of_ble_eq_true rfl) (jroom (by decide)) rfl (c_strlen (i := 20) (z := 99) (by decide) (by decide) ?_)
  dsimp only [jpush]
  (try simp (disch := omega) only [put_r6, put_w6, put_r7, put_w7, put_r9, put_w9, put_r10, put_w10, put_r11, put_w11, put_r12, put_w12, put_r13, put_w13, put_r14, put_w14, put_r15, put_w15, put_ra, put_r8, put_r0, put_rt, put_wa, u1, u2, hn8])
  refine e_icmp_ge 13 123 dX12_keyAt_10 (by decide) (by decide) (by decide) rfl (fun h => absurd h (by decide)) (fun _ => ?_)
  refine e_iconst 14 dX12_keyAt_13 rfl ?_
  refine e_istore_n (i := 3) (lsn := [(3, _), (0, _), (1, _), (2, _)]) 15 dX12_keyAt_14 rfl (by decide) rfl rfl ?_
  refine e_ldcS 17 (i := 20) (by decide) rfl rfl dX12_keyAt_15 rfl ?_
  refine e_iload_n (i := 2) 18 dX12_keyAt_17 rfl rfl rfl ?_
  refine e_iload_n (i := 3) 19 dX12_keyAt_18 rfl rfl rfl ?_
  refine e_iadd 20 dX12_keyAt_19 rfl ?_
  refine e_callF (av := [jI _]) 23 (i := 20) (by decide) mt_yJ_charAt mv_yJ_charAt wd_1410 (by decide) dX12_keyAt_20 rfl rfl rfl (Nat.le_of_ble_eq_true rfl) (jroom (by decide)) rfl (c_charAt (i := 20) (k := 15) (z := 108) (by decide) (by decide) (by decide +kernel) ?_)
  dsimp only [jpush]
  (try simp (disch := omega) only [put_r6, put_w6, put_r7, put_w7, put_r9, put_w9, put_r10, put_w10, put_r11, put_w11, put_r12, put_w12, put_r13, put_w13, put_r14, put_w14, put_r15, put_w15, put_ra, put_r8, put_r0, put_rt, put_wa, u1, u2, hn8])
  refine e_bipush 25 dX12_keyAt_23 (by decide) rfl ?_
  refine e_icmp_eq 28 69 dX12_keyAt_25 (by decide) (by decide) (by decide) rfl (fun h => absurd h (by decide)) (fun _ => ?_)
  refine e_aload_n (i := 0) 29 dX12_keyAt_28 rfl rfl rfl ?_
  refine e_geti (j := 6) 32 fl_12_97 dX12_keyAt_29 at_928 (by decide) rfl rfl (fun r29 => ?_)
  simp (disch := omega) only [put_r6, put_w6, put_r7, put_w7, put_r9, put_w9, put_r10, put_w10, put_r11, put_w11, put_r12, put_w12, put_r13, put_w13, put_r14, put_w14, put_r15, put_w15, put_ra, put_r8, put_r0, put_rt, put_wa, u1, u2, hn8] at r29 ⊢
  refine e_iload_n (i := 3) 33 dX12_keyAt_32 rfl rfl rfl ?_
  refine e_iadd 34 dX12_keyAt_33 rfl ?_
  refine e_aload_n (i := 0) 35 dX12_keyAt_34 rfl rfl rfl ?_
  refine e_geti (j := 7) 38 fl_12_100 dX12_keyAt_35 at_928 (by decide) rfl rfl (fun r35 => ?_)
  simp (disch := omega) only [put_r6, put_w6, put_r7, put_w7, put_r9, put_w9, put_r10, put_w10, put_r11, put_w11, put_r12, put_w12, put_r13, put_w13, put_r14, put_w14, put_r15, put_w15, put_ra, put_r8, put_r0, put_rt, put_wa, u1, u2, hn8] at r35 ⊢
  refine e_icmp_ge 41 69 dX12_keyAt_38 (by omega) (by omega) (by decide) rfl (fun b38 => ?_) (fun b38 => ?_)
  · skip
    refine e_ldcS 71 (i := 20) (by decide) rfl rfl dX12_keyAt_69 rfl ?_
    refine e_iload_n (i := 2) 72 dX12_keyAt_71 rfl rfl rfl ?_
    refine e_iload_n (i := 3) 73 dX12_keyAt_72 rfl rfl rfl ?_
    refine e_iadd 74 dX12_keyAt_73 rfl ?_
    refine e_callF (av := [jI _]) 77 (i := 20) (by decide) mt_yJ_charAt mv_yJ_charAt wd_1410 (by decide) dX12_keyAt_74 rfl rfl rfl (Nat.le_of_ble_eq_true rfl) (jroom (by decide)) rfl (c_charAt (i := 20) (k := 15) (z := 108) (by decide) (by decide) (by decide +kernel) ?_)
    dsimp only [jpush]
    (try simp (disch := omega) only [put_r6, put_w6, put_r7, put_w7, put_r9, put_w9, put_r10, put_w10, put_r11, put_w11, put_r12, put_w12, put_r13, put_w13, put_r14, put_w14, put_r15, put_w15, put_ra, put_r8, put_r0, put_rt, put_wa, u1, u2, hn8])
    refine e_bipush 79 dX12_keyAt_77 (by decide) rfl ?_
    refine e_icmp_ne 82 97 dX12_keyAt_79 (by decide) (by decide) (by decide) rfl (fun _ => ?_) (fun h => absurd h (by decide))
    refine e_ls (ls2 := [(0, _), (1, _), (2, _)]) rfl ?_
    refine sk_3 (kk_4 hT hp hb ?_)
    rw [kx3, if_neg (fun q => by omega)] at h
    exact h
  · skip
    refine e_aload_n (i := 0) 42 dX12_keyAt_41 rfl rfl rfl ?_
    refine e_getr (j := 3) 45 fl_12_21 dX12_keyAt_42 at_928 rfl rfl tp_928_3 rfl ?_
    refine e_aload_n (i := 0) 46 dX12_keyAt_45 rfl rfl rfl ?_
    refine e_geti (j := 6) 49 fl_12_97 dX12_keyAt_46 at_928 (by decide) rfl rfl (fun r46 => ?_)
    simp (disch := omega) only [put_r6, put_w6, put_r7, put_w7, put_r9, put_w9, put_r10, put_w10, put_r11, put_w11, put_r12, put_w12, put_r13, put_w13, put_r14, put_w14, put_r15, put_w15, put_ra, put_r8, put_r0, put_rt, put_wa, u1, u2, hn8] at r46 ⊢
    refine e_iload_n (i := 3) 50 dX12_keyAt_49 rfl rfl rfl ?_
    refine e_iadd 51 dX12_keyAt_50 rfl ?_
    refine e_iald 52 dX12_keyAt_51 ar_931 (by omega) (by omega) rfl (fun r51 => ?_)
    simp (disch := omega) only [put_r6, put_w6, put_r7, put_w7, put_r9, put_w9, put_r10, put_w10, put_r11, put_w11, put_r12, put_w12, put_r13, put_w13, put_r14, put_w14, put_r15, put_w15, put_ra, put_r8, put_r0, put_rt, put_wa, u1, u2, hn8, Int.reduceAdd, Int.add_zero] at r51 ⊢
    refine e_ldcS 54 (i := 20) (by decide) rfl rfl dX12_keyAt_52 rfl ?_
    refine e_iload_n (i := 2) 55 dX12_keyAt_54 rfl rfl rfl ?_
    refine e_iload_n (i := 3) 56 dX12_keyAt_55 rfl rfl rfl ?_
    refine e_iadd 57 dX12_keyAt_56 rfl ?_
    refine e_callF (av := [jI _]) 60 (i := 20) (by decide) mt_yJ_charAt mv_yJ_charAt wd_1410 (by decide) dX12_keyAt_57 rfl rfl rfl (Nat.le_of_ble_eq_true rfl) (jroom (by decide)) rfl (c_charAt (i := 20) (k := 15) (z := 108) (by decide) (by decide) (by decide +kernel) ?_)
    dsimp only [jpush]
    (try simp (disch := omega) only [put_r6, put_w6, put_r7, put_w7, put_r9, put_w9, put_r10, put_w10, put_r11, put_w11, put_r12, put_w12, put_r13, put_w13, put_r14, put_w14, put_r15, put_w15, put_ra, put_r8, put_r0, put_rt, put_wa, u1, u2, hn8])
    refine e_icmp_ne 63 69 dX12_keyAt_60 (by omega) (by decide) (by decide) rfl (fun b60 => ?_) (fun b60 => ?_)
    · skip
      refine e_ldcS 71 (i := 20) (by decide) rfl rfl dX12_keyAt_69 rfl ?_
      refine e_iload_n (i := 2) 72 dX12_keyAt_71 rfl rfl rfl ?_
      refine e_iload_n (i := 3) 73 dX12_keyAt_72 rfl rfl rfl ?_
      refine e_iadd 74 dX12_keyAt_73 rfl ?_
      refine e_callF (av := [jI _]) 77 (i := 20) (by decide) mt_yJ_charAt mv_yJ_charAt wd_1410 (by decide) dX12_keyAt_74 rfl rfl rfl (Nat.le_of_ble_eq_true rfl) (jroom (by decide)) rfl (c_charAt (i := 20) (k := 15) (z := 108) (by decide) (by decide) (by decide +kernel) ?_)
      dsimp only [jpush]
      (try simp (disch := omega) only [put_r6, put_w6, put_r7, put_w7, put_r9, put_w9, put_r10, put_w10, put_r11, put_w11, put_r12, put_w12, put_r13, put_w13, put_r14, put_w14, put_r15, put_w15, put_ra, put_r8, put_r0, put_rt, put_wa, u1, u2, hn8])
      refine e_bipush 79 dX12_keyAt_77 (by decide) rfl ?_
      refine e_icmp_ne 82 97 dX12_keyAt_79 (by decide) (by decide) (by decide) rfl (fun _ => ?_) (fun h => absurd h (by decide))
      refine e_ls (ls2 := [(0, _), (1, _), (2, _)]) rfl ?_
      refine sk_3 (kk_4 hT hp hb ?_)
      rw [kx3, if_neg (fun q => by omega)] at h
      exact h
    · skip
      refine e_iinc (lsn := [(3, _), (0, _), (1, _), (2, _)]) 66 dX12_keyAt_63 rfl (by decide) rfl rfl ?_
      refine e_goto 15 dX12_keyAt_66 (by decide) ?_
      refine e_ldcS 17 (i := 20) (by decide) rfl rfl dX12_keyAt_15 rfl ?_
      refine e_iload_n (i := 2) 18 dX12_keyAt_17 rfl rfl rfl ?_
      refine e_iload_n (i := 3) 19 dX12_keyAt_18 rfl rfl rfl ?_
      refine e_iadd 20 dX12_keyAt_19 rfl ?_
      refine e_callF (av := [jI _]) 23 (i := 20) (by decide) mt_yJ_charAt mv_yJ_charAt wd_1410 (by decide) dX12_keyAt_20 rfl rfl rfl (Nat.le_of_ble_eq_true rfl) (jroom (by decide)) rfl (c_charAt (i := 20) (k := 16) (z := 101) (by decide) (by decide) (by decide +kernel) ?_)
      dsimp only [jpush]
      (try simp (disch := omega) only [put_r6, put_w6, put_r7, put_w7, put_r9, put_w9, put_r10, put_w10, put_r11, put_w11, put_r12, put_w12, put_r13, put_w13, put_r14, put_w14, put_r15, put_w15, put_ra, put_r8, put_r0, put_rt, put_wa, u1, u2, hn8])
      refine e_bipush 25 dX12_keyAt_23 (by decide) rfl ?_
      refine e_icmp_eq 28 69 dX12_keyAt_25 (by decide) (by decide) (by decide) rfl (fun h => absurd h (by decide)) (fun _ => ?_)
      refine e_aload_n (i := 0) 29 dX12_keyAt_28 rfl rfl rfl ?_
      refine e_geti (j := 6) 32 fl_12_97 dX12_keyAt_29 at_928 (by decide) rfl rfl (fun r29 => ?_)
      simp (disch := omega) only [put_r6, put_w6, put_r7, put_w7, put_r9, put_w9, put_r10, put_w10, put_r11, put_w11, put_r12, put_w12, put_r13, put_w13, put_r14, put_w14, put_r15, put_w15, put_ra, put_r8, put_r0, put_rt, put_wa, u1, u2, hn8] at r29 ⊢
      refine e_iload_n (i := 3) 33 dX12_keyAt_32 rfl rfl rfl ?_
      refine e_iadd 34 dX12_keyAt_33 rfl ?_
      refine e_aload_n (i := 0) 35 dX12_keyAt_34 rfl rfl rfl ?_
      refine e_geti (j := 7) 38 fl_12_100 dX12_keyAt_35 at_928 (by decide) rfl rfl (fun r35 => ?_)
      simp (disch := omega) only [put_r6, put_w6, put_r7, put_w7, put_r9, put_w9, put_r10, put_w10, put_r11, put_w11, put_r12, put_w12, put_r13, put_w13, put_r14, put_w14, put_r15, put_w15, put_ra, put_r8, put_r0, put_rt, put_wa, u1, u2, hn8] at r35 ⊢
      refine e_icmp_ge 41 69 dX12_keyAt_38 (by omega) (by omega) (by decide) rfl (fun b38 => ?_) (fun b38 => ?_)
      · skip
        refine e_ldcS 71 (i := 20) (by decide) rfl rfl dX12_keyAt_69 rfl ?_
        refine e_iload_n (i := 2) 72 dX12_keyAt_71 rfl rfl rfl ?_
        refine e_iload_n (i := 3) 73 dX12_keyAt_72 rfl rfl rfl ?_
        refine e_iadd 74 dX12_keyAt_73 rfl ?_
        refine e_callF (av := [jI _]) 77 (i := 20) (by decide) mt_yJ_charAt mv_yJ_charAt wd_1410 (by decide) dX12_keyAt_74 rfl rfl rfl (Nat.le_of_ble_eq_true rfl) (jroom (by decide)) rfl (c_charAt (i := 20) (k := 16) (z := 101) (by decide) (by decide) (by decide +kernel) ?_)
        dsimp only [jpush]
        (try simp (disch := omega) only [put_r6, put_w6, put_r7, put_w7, put_r9, put_w9, put_r10, put_w10, put_r11, put_w11, put_r12, put_w12, put_r13, put_w13, put_r14, put_w14, put_r15, put_w15, put_ra, put_r8, put_r0, put_rt, put_wa, u1, u2, hn8])
        refine e_bipush 79 dX12_keyAt_77 (by decide) rfl ?_
        refine e_icmp_ne 82 97 dX12_keyAt_79 (by decide) (by decide) (by decide) rfl (fun _ => ?_) (fun h => absurd h (by decide))
        refine e_ls (ls2 := [(0, _), (1, _), (2, _)]) rfl ?_
        refine sk_3 (kk_4 hT hp hb ?_)
        rw [kx3, if_neg (fun q => by omega)] at h
        exact h
      · skip
        refine e_aload_n (i := 0) 42 dX12_keyAt_41 rfl rfl rfl ?_
        refine e_getr (j := 3) 45 fl_12_21 dX12_keyAt_42 at_928 rfl rfl tp_928_3 rfl ?_
        refine e_aload_n (i := 0) 46 dX12_keyAt_45 rfl rfl rfl ?_
        refine e_geti (j := 6) 49 fl_12_97 dX12_keyAt_46 at_928 (by decide) rfl rfl (fun r46 => ?_)
        simp (disch := omega) only [put_r6, put_w6, put_r7, put_w7, put_r9, put_w9, put_r10, put_w10, put_r11, put_w11, put_r12, put_w12, put_r13, put_w13, put_r14, put_w14, put_r15, put_w15, put_ra, put_r8, put_r0, put_rt, put_wa, u1, u2, hn8] at r46 ⊢
        refine e_iload_n (i := 3) 50 dX12_keyAt_49 rfl rfl rfl ?_
        refine e_iadd 51 dX12_keyAt_50 rfl ?_
        refine e_iald 52 dX12_keyAt_51 ar_931 (by omega) (by omega) rfl (fun r51 => ?_)
        simp (disch := omega) only [put_r6, put_w6, put_r7, put_w7, put_r9, put_w9, put_r10, put_w10, put_r11, put_w11, put_r12, put_w12, put_r13, put_w13, put_r14, put_w14, put_r15, put_w15, put_ra, put_r8, put_r0, put_rt, put_wa, u1, u2, hn8, Int.reduceAdd, Int.add_zero] at r51 ⊢
        refine e_ldcS 54 (i := 20) (by decide) rfl rfl dX12_keyAt_52 rfl ?_
        refine e_iload_n (i := 2) 55 dX12_keyAt_54 rfl rfl rfl ?_
        refine e_iload_n (i := 3) 56 dX12_keyAt_55 rfl rfl rfl ?_
        refine e_iadd 57 dX12_keyAt_56 rfl ?_
        refine e_callF (av := [jI _]) 60 (i := 20) (by decide) mt_yJ_charAt mv_yJ_charAt wd_1410 (by decide) dX12_keyAt_57 rfl rfl rfl (Nat.le_of_ble_eq_true rfl) (jroom (by decide)) rfl (c_charAt (i := 20) (k := 16) (z := 101) (by decide) (by decide) (by decide +kernel) ?_)
        dsimp only [jpush]
        (try simp (disch := omega) only [put_r6, put_w6, put_r7, put_w7, put_r9, put_w9, put_r10, put_w10, put_r11, put_w11, put_r12, put_w12, put_r13, put_w13, put_r14, put_w14, put_r15, put_w15, put_ra, put_r8, put_r0, put_rt, put_wa, u1, u2, hn8])
        refine e_icmp_ne 63 69 dX12_keyAt_60 (by omega) (by decide) (by decide) rfl (fun b60 => ?_) (fun b60 => ?_)
        · skip
          refine e_ldcS 71 (i := 20) (by decide) rfl rfl dX12_keyAt_69 rfl ?_
          refine e_iload_n (i := 2) 72 dX12_keyAt_71 rfl rfl rfl ?_
          refine e_iload_n (i := 3) 73 dX12_keyAt_72 rfl rfl rfl ?_
          refine e_iadd 74 dX12_keyAt_73 rfl ?_
          refine e_callF (av := [jI _]) 77 (i := 20) (by decide) mt_yJ_charAt mv_yJ_charAt wd_1410 (by decide) dX12_keyAt_74 rfl rfl rfl (Nat.le_of_ble_eq_true rfl) (jroom (by decide)) rfl (c_charAt (i := 20) (k := 16) (z := 101) (by decide) (by decide) (by decide +kernel) ?_)
          dsimp only [jpush]
          (try simp (disch := omega) only [put_r6, put_w6, put_r7, put_w7, put_r9, put_w9, put_r10, put_w10, put_r11, put_w11, put_r12, put_w12, put_r13, put_w13, put_r14, put_w14, put_r15, put_w15, put_ra, put_r8, put_r0, put_rt, put_wa, u1, u2, hn8])
          refine e_bipush 79 dX12_keyAt_77 (by decide) rfl ?_
          refine e_icmp_ne 82 97 dX12_keyAt_79 (by decide) (by decide) (by decide) rfl (fun _ => ?_) (fun h => absurd h (by decide))
          refine e_ls (ls2 := [(0, _), (1, _), (2, _)]) rfl ?_
          refine sk_3 (kk_4 hT hp hb ?_)
          rw [kx3, if_neg (fun q => by omega)] at h
          exact h
        · skip
          refine e_iinc (lsn := [(3, _), (0, _), (1, _), (2, _)]) 66 dX12_keyAt_63 rfl (by decide) rfl rfl ?_
          refine e_goto 15 dX12_keyAt_66 (by decide) ?_
          refine e_ldcS 17 (i := 20) (by decide) rfl rfl dX12_keyAt_15 rfl ?_
          refine e_iload_n (i := 2) 18 dX12_keyAt_17 rfl rfl rfl ?_
          refine e_iload_n (i := 3) 19 dX12_keyAt_18 rfl rfl rfl ?_
          refine e_iadd 20 dX12_keyAt_19 rfl ?_
          refine e_callF (av := [jI _]) 23 (i := 20) (by decide) mt_yJ_charAt mv_yJ_charAt wd_1410 (by decide) dX12_keyAt_20 rfl rfl rfl (Nat.le_of_ble_eq_true rfl) (jroom (by decide)) rfl (c_charAt (i := 20) (k := 17) (z := 97) (by decide) (by decide) (by decide +kernel) ?_)
          dsimp only [jpush]
          (try simp (disch := omega) only [put_r6, put_w6, put_r7, put_w7, put_r9, put_w9, put_r10, put_w10, put_r11, put_w11, put_r12, put_w12, put_r13, put_w13, put_r14, put_w14, put_r15, put_w15, put_ra, put_r8, put_r0, put_rt, put_wa, u1, u2, hn8])
          refine e_bipush 25 dX12_keyAt_23 (by decide) rfl ?_
          refine e_icmp_eq 28 69 dX12_keyAt_25 (by decide) (by decide) (by decide) rfl (fun h => absurd h (by decide)) (fun _ => ?_)
          refine e_aload_n (i := 0) 29 dX12_keyAt_28 rfl rfl rfl ?_
          refine e_geti (j := 6) 32 fl_12_97 dX12_keyAt_29 at_928 (by decide) rfl rfl (fun r29 => ?_)
          simp (disch := omega) only [put_r6, put_w6, put_r7, put_w7, put_r9, put_w9, put_r10, put_w10, put_r11, put_w11, put_r12, put_w12, put_r13, put_w13, put_r14, put_w14, put_r15, put_w15, put_ra, put_r8, put_r0, put_rt, put_wa, u1, u2, hn8] at r29 ⊢
          refine e_iload_n (i := 3) 33 dX12_keyAt_32 rfl rfl rfl ?_
          refine e_iadd 34 dX12_keyAt_33 rfl ?_
          refine e_aload_n (i := 0) 35 dX12_keyAt_34 rfl rfl rfl ?_
          refine e_geti (j := 7) 38 fl_12_100 dX12_keyAt_35 at_928 (by decide) rfl rfl (fun r35 => ?_)
          simp (disch := omega) only [put_r6, put_w6, put_r7, put_w7, put_r9, put_w9, put_r10, put_w10, put_r11, put_w11, put_r12, put_w12, put_r13, put_w13, put_r14, put_w14, put_r15, put_w15, put_ra, put_r8, put_r0, put_rt, put_wa, u1, u2, hn8] at r35 ⊢
          refine e_icmp_ge 41 69 dX12_keyAt_38 (by omega) (by omega) (by decide) rfl (fun b38 => ?_) (fun b38 => ?_)
          · skip
            refine e_ldcS 71 (i := 20) (by decide) rfl rfl dX12_keyAt_69 rfl ?_
            refine e_iload_n (i := 2) 72 dX12_keyAt_71 rfl rfl rfl ?_
            refine e_iload_n (i := 3) 73 dX12_keyAt_72 rfl rfl rfl ?_
            refine e_iadd 74 dX12_keyAt_73 rfl ?_
            refine e_callF (av := [jI _]) 77 (i := 20) (by decide) mt_yJ_charAt mv_yJ_charAt wd_1410 (by decide) dX12_keyAt_74 rfl rfl rfl (Nat.le_of_ble_eq_true rfl) (jroom (by decide)) rfl (c_charAt (i := 20) (k := 17) (z := 97) (by decide) (by decide) (by decide +kernel) ?_)
            dsimp only [jpush]
            (try simp (disch := omega) only [put_r6, put_w6, put_r7, put_w7, put_r9, put_w9, put_r10, put_w10, put_r11, put_w11, put_r12, put_w12, put_r13, put_w13, put_r14, put_w14, put_r15, put_w15, put_ra, put_r8, put_r0, put_rt, put_wa, u1, u2, hn8])
            refine e_bipush 79 dX12_keyAt_77 (by decide) rfl ?_
            refine e_icmp_ne 82 97 dX12_keyAt_79 (by decide) (by decide) (by decide) rfl (fun _ => ?_) (fun h => absurd h (by decide))
            refine e_ls (ls2 := [(0, _), (1, _), (2, _)]) rfl ?_
            refine sk_3 (kk_4 hT hp hb ?_)
            rw [kx3, if_neg (fun q => by omega)] at h
            exact h
          · skip
            refine e_aload_n (i := 0) 42 dX12_keyAt_41 rfl rfl rfl ?_
            refine e_getr (j := 3) 45 fl_12_21 dX12_keyAt_42 at_928 rfl rfl tp_928_3 rfl ?_
            refine e_aload_n (i := 0) 46 dX12_keyAt_45 rfl rfl rfl ?_
            refine e_geti (j := 6) 49 fl_12_97 dX12_keyAt_46 at_928 (by decide) rfl rfl (fun r46 => ?_)
            simp (disch := omega) only [put_r6, put_w6, put_r7, put_w7, put_r9, put_w9, put_r10, put_w10, put_r11, put_w11, put_r12, put_w12, put_r13, put_w13, put_r14, put_w14, put_r15, put_w15, put_ra, put_r8, put_r0, put_rt, put_wa, u1, u2, hn8] at r46 ⊢
            refine e_iload_n (i := 3) 50 dX12_keyAt_49 rfl rfl rfl ?_
            refine e_iadd 51 dX12_keyAt_50 rfl ?_
            refine e_iald 52 dX12_keyAt_51 ar_931 (by omega) (by omega) rfl (fun r51 => ?_)
            simp (disch := omega) only [put_r6, put_w6, put_r7, put_w7, put_r9, put_w9, put_r10, put_w10, put_r11, put_w11, put_r12, put_w12, put_r13, put_w13, put_r14, put_w14, put_r15, put_w15, put_ra, put_r8, put_r0, put_rt, put_wa, u1, u2, hn8, Int.reduceAdd, Int.add_zero] at r51 ⊢
            refine e_ldcS 54 (i := 20) (by decide) rfl rfl dX12_keyAt_52 rfl ?_
            refine e_iload_n (i := 2) 55 dX12_keyAt_54 rfl rfl rfl ?_
            refine e_iload_n (i := 3) 56 dX12_keyAt_55 rfl rfl rfl ?_
            refine e_iadd 57 dX12_keyAt_56 rfl ?_
            refine e_callF (av := [jI _]) 60 (i := 20) (by decide) mt_yJ_charAt mv_yJ_charAt wd_1410 (by decide) dX12_keyAt_57 rfl rfl rfl (Nat.le_of_ble_eq_true rfl) (jroom (by decide)) rfl (c_charAt (i := 20) (k := 17) (z := 97) (by decide) (by decide) (by decide +kernel) ?_)
            dsimp only [jpush]
            (try simp (disch := omega) only [put_r6, put_w6, put_r7, put_w7, put_r9, put_w9, put_r10, put_w10, put_r11, put_w11, put_r12, put_w12, put_r13, put_w13, put_r14, put_w14, put_r15, put_w15, put_ra, put_r8, put_r0, put_rt, put_wa, u1, u2, hn8])
            refine e_icmp_ne 63 69 dX12_keyAt_60 (by omega) (by decide) (by decide) rfl (fun b60 => ?_) (fun b60 => ?_)
            · skip
              refine e_ldcS 71 (i := 20) (by decide) rfl rfl dX12_keyAt_69 rfl ?_
              refine e_iload_n (i := 2) 72 dX12_keyAt_71 rfl rfl rfl ?_
              refine e_iload_n (i := 3) 73 dX12_keyAt_72 rfl rfl rfl ?_
              refine e_iadd 74 dX12_keyAt_73 rfl ?_
              refine e_callF (av := [jI _]) 77 (i := 20) (by decide) mt_yJ_charAt mv_yJ_charAt wd_1410 (by decide) dX12_keyAt_74 rfl rfl rfl (Nat.le_of_ble_eq_true rfl) (jroom (by decide)) rfl (c_charAt (i := 20) (k := 17) (z := 97) (by decide) (by decide) (by decide +kernel) ?_)
              dsimp only [jpush]
              (try simp (disch := omega) only [put_r6, put_w6, put_r7, put_w7, put_r9, put_w9, put_r10, put_w10, put_r11, put_w11, put_r12, put_w12, put_r13, put_w13, put_r14, put_w14, put_r15, put_w15, put_ra, put_r8, put_r0, put_rt, put_wa, u1, u2, hn8])
              refine e_bipush 79 dX12_keyAt_77 (by decide) rfl ?_
              refine e_icmp_ne 82 97 dX12_keyAt_79 (by decide) (by decide) (by decide) rfl (fun _ => ?_) (fun h => absurd h (by decide))
              refine e_ls (ls2 := [(0, _), (1, _), (2, _)]) rfl ?_
              refine sk_3 (kk_4 hT hp hb ?_)
              rw [kx3, if_neg (fun q => by omega)] at h
              exact h
            · skip
              refine e_iinc (lsn := [(3, _), (0, _), (1, _), (2, _)]) 66 dX12_keyAt_63 rfl (by decide) rfl rfl ?_
              refine e_goto 15 dX12_keyAt_66 (by decide) ?_
              refine e_ldcS 17 (i := 20) (by decide) rfl rfl dX12_keyAt_15 rfl ?_
              refine e_iload_n (i := 2) 18 dX12_keyAt_17 rfl rfl rfl ?_
              refine e_iload_n (i := 3) 19 dX12_keyAt_18 rfl rfl rfl ?_
              refine e_iadd 20 dX12_keyAt_19 rfl ?_
              refine e_callF (av := [jI _]) 23 (i := 20) (by decide) mt_yJ_charAt mv_yJ_charAt wd_1410 (by decide) dX12_keyAt_20 rfl rfl rfl (Nat.le_of_ble_eq_true rfl) (jroom (by decide)) rfl (c_charAt (i := 20) (k := 18) (z := 115) (by decide) (by decide) (by decide +kernel) ?_)
              dsimp only [jpush]
              (try simp (disch := omega) only [put_r6, put_w6, put_r7, put_w7, put_r9, put_w9, put_r10, put_w10, put_r11, put_w11, put_r12, put_w12, put_r13, put_w13, put_r14, put_w14, put_r15, put_w15, put_ra, put_r8, put_r0, put_rt, put_wa, u1, u2, hn8])
              refine e_bipush 25 dX12_keyAt_23 (by decide) rfl ?_
              refine e_icmp_eq 28 69 dX12_keyAt_25 (by decide) (by decide) (by decide) rfl (fun h => absurd h (by decide)) (fun _ => ?_)
              refine e_aload_n (i := 0) 29 dX12_keyAt_28 rfl rfl rfl ?_
              refine e_geti (j := 6) 32 fl_12_97 dX12_keyAt_29 at_928 (by decide) rfl rfl (fun r29 => ?_)
              simp (disch := omega) only [put_r6, put_w6, put_r7, put_w7, put_r9, put_w9, put_r10, put_w10, put_r11, put_w11, put_r12, put_w12, put_r13, put_w13, put_r14, put_w14, put_r15, put_w15, put_ra, put_r8, put_r0, put_rt, put_wa, u1, u2, hn8] at r29 ⊢
              refine e_iload_n (i := 3) 33 dX12_keyAt_32 rfl rfl rfl ?_
              refine e_iadd 34 dX12_keyAt_33 rfl ?_
              refine e_aload_n (i := 0) 35 dX12_keyAt_34 rfl rfl rfl ?_
              refine e_geti (j := 7) 38 fl_12_100 dX12_keyAt_35 at_928 (by decide) rfl rfl (fun r35 => ?_)
              simp (disch := omega) only [put_r6, put_w6, put_r7, put_w7, put_r9, put_w9, put_r10, put_w10, put_r11, put_w11, put_r12, put_w12, put_r13, put_w13, put_r14, put_w14, put_r15, put_w15, put_ra, put_r8, put_r0, put_rt, put_wa, u1, u2, hn8] at r35 ⊢
              refine e_icmp_ge 41 69 dX12_keyAt_38 (by omega) (by omega) (by decide) rfl (fun b38 => ?_) (fun b38 => ?_)
              · skip
                refine e_ldcS 71 (i := 20) (by decide) rfl rfl dX12_keyAt_69 rfl ?_
                refine e_iload_n (i := 2) 72 dX12_keyAt_71 rfl rfl rfl ?_
                refine e_iload_n (i := 3) 73 dX12_keyAt_72 rfl rfl rfl ?_
                refine e_iadd 74 dX12_keyAt_73 rfl ?_
                refine e_callF (av := [jI _]) 77 (i := 20) (by decide) mt_yJ_charAt mv_yJ_charAt wd_1410 (by decide) dX12_keyAt_74 rfl rfl rfl (Nat.le_of_ble_eq_true rfl) (jroom (by decide)) rfl (c_charAt (i := 20) (k := 18) (z := 115) (by decide) (by decide) (by decide +kernel) ?_)
                dsimp only [jpush]
                (try simp (disch := omega) only [put_r6, put_w6, put_r7, put_w7, put_r9, put_w9, put_r10, put_w10, put_r11, put_w11, put_r12, put_w12, put_r13, put_w13, put_r14, put_w14, put_r15, put_w15, put_ra, put_r8, put_r0, put_rt, put_wa, u1, u2, hn8])
                refine e_bipush 79 dX12_keyAt_77 (by decide) rfl ?_
                refine e_icmp_ne 82 97 dX12_keyAt_79 (by decide) (by decide) (by decide) rfl (fun _ => ?_) (fun h => absurd h (by decide))
                refine e_ls (ls2 := [(0, _), (1, _), (2, _)]) rfl ?_
                refine sk_3 (kk_4 hT hp hb ?_)
                rw [kx3, if_neg (fun q => by omega)] at h
                exact h
              · skip
                refine e_aload_n (i := 0) 42 dX12_keyAt_41 rfl rfl rfl ?_
                refine e_getr (j := 3) 45 fl_12_21 dX12_keyAt_42 at_928 rfl rfl tp_928_3 rfl ?_
                refine e_aload_n (i := 0) 46 dX12_keyAt_45 rfl rfl rfl ?_
                refine e_geti (j := 6) 49 fl_12_97 dX12_keyAt_46 at_928 (by decide) rfl rfl (fun r46 => ?_)
                simp (disch := omega) only [put_r6, put_w6, put_r7, put_w7, put_r9, put_w9, put_r10, put_w10, put_r11, put_w11, put_r12, put_w12, put_r13, put_w13, put_r14, put_w14, put_r15, put_w15, put_ra, put_r8, put_r0, put_rt, put_wa, u1, u2, hn8] at r46 ⊢
                refine e_iload_n (i := 3) 50 dX12_keyAt_49 rfl rfl rfl ?_
                refine e_iadd 51 dX12_keyAt_50 rfl ?_
                refine e_iald 52 dX12_keyAt_51 ar_931 (by omega) (by omega) rfl (fun r51 => ?_)
                simp (disch := omega) only [put_r6, put_w6, put_r7, put_w7, put_r9, put_w9, put_r10, put_w10, put_r11, put_w11, put_r12, put_w12, put_r13, put_w13, put_r14, put_w14, put_r15, put_w15, put_ra, put_r8, put_r0, put_rt, put_wa, u1, u2, hn8, Int.reduceAdd, Int.add_zero] at r51 ⊢
                refine e_ldcS 54 (i := 20) (by decide) rfl rfl dX12_keyAt_52 rfl ?_
                refine e_iload_n (i := 2) 55 dX12_keyAt_54 rfl rfl rfl ?_
                refine e_iload_n (i := 3) 56 dX12_keyAt_55 rfl rfl rfl ?_
                refine e_iadd 57 dX12_keyAt_56 rfl ?_
                refine e_callF (av := [jI _]) 60 (i := 20) (by decide) mt_yJ_charAt mv_yJ_charAt wd_1410 (by decide) dX12_keyAt_57 rfl rfl rfl (Nat.le_of_ble_eq_true rfl) (jroom (by decide)) rfl (c_charAt (i := 20) (k := 18) (z := 115) (by decide) (by decide) (by decide +kernel) ?_)
                dsimp only [jpush]
                (try simp (disch := omega) only [put_r6, put_w6, put_r7, put_w7, put_r9, put_w9, put_r10, put_w10, put_r11, put_w11, put_r12, put_w12, put_r13, put_w13, put_r14, put_w14, put_r15, put_w15, put_ra, put_r8, put_r0, put_rt, put_wa, u1, u2, hn8])
                refine e_icmp_ne 63 69 dX12_keyAt_60 (by omega) (by decide) (by decide) rfl (fun b60 => ?_) (fun b60 => ?_)
                · skip
                  refine e_ldcS 71 (i := 20) (by decide) rfl rfl dX12_keyAt_69 rfl ?_
                  refine e_iload_n (i := 2) 72 dX12_keyAt_71 rfl rfl rfl ?_
                  refine e_iload_n (i := 3) 73 dX12_keyAt_72 rfl rfl rfl ?_
                  refine e_iadd 74 dX12_keyAt_73 rfl ?_
                  refine e_callF (av := [jI _]) 77 (i := 20) (by decide) mt_yJ_charAt mv_yJ_charAt wd_1410 (by decide) dX12_keyAt_74 rfl rfl rfl (Nat.le_of_ble_eq_true rfl) (jroom (by decide)) rfl (c_charAt (i := 20) (k := 18) (z := 115) (by decide) (by decide) (by decide +kernel) ?_)
                  dsimp only [jpush]
                  (try simp (disch := omega) only [put_r6, put_w6, put_r7, put_w7, put_r9, put_w9, put_r10, put_w10, put_r11, put_w11, put_r12, put_w12, put_r13, put_w13, put_r14, put_w14, put_r15, put_w15, put_ra, put_r8, put_r0, put_rt, put_wa, u1, u2, hn8])
                  refine e_bipush 79 dX12_keyAt_77 (by decide) rfl ?_
                  refine e_icmp_ne 82 97 dX12_keyAt_79 (by decide) (by decide) (by decide) rfl (fun _ => ?_) (fun h => absurd h (by decide))
                  refine e_ls (ls2 := [(0, _), (1, _), (2, _)]) rfl ?_
                  refine sk_3 (kk_4 hT hp hb ?_)
                  rw [kx3, if_neg (fun q => by omega)] at h
                  exact h
                · skip
                  refine e_iinc (lsn := [(3, _), (0, _), (1, _), (2, _)]) 66 dX12_keyAt_63 rfl (by decide) rfl rfl ?_
                  refine e_goto 15 dX12_keyAt_66 (by decide) ?_
                  refine e_ldcS 17 (i := 20) (by decide) rfl rfl dX12_keyAt_15 rfl ?_
                  refine e_iload_n (i := 2) 18 dX12_keyAt_17 rfl rfl rfl ?_
                  refine e_iload_n (i := 3) 19 dX12_keyAt_18 rfl rfl rfl ?_
                  refine e_iadd 20 dX12_keyAt_19 rfl ?_
                  refine e_callF (av := [jI _]) 23 (i := 20) (by decide) mt_yJ_charAt mv_yJ_charAt wd_1410 (by decide) dX12_keyAt_20 rfl rfl rfl (Nat.le_of_ble_eq_true rfl) (jroom (by decide)) rfl (c_charAt (i := 20) (k := 19) (z := 116) (by decide) (by decide) (by decide +kernel) ?_)
                  dsimp only [jpush]
                  (try simp (disch := omega) only [put_r6, put_w6, put_r7, put_w7, put_r9, put_w9, put_r10, put_w10, put_r11, put_w11, put_r12, put_w12, put_r13, put_w13, put_r14, put_w14, put_r15, put_w15, put_ra, put_r8, put_r0, put_rt, put_wa, u1, u2, hn8])
                  refine e_bipush 25 dX12_keyAt_23 (by decide) rfl ?_
                  refine e_icmp_eq 28 69 dX12_keyAt_25 (by decide) (by decide) (by decide) rfl (fun h => absurd h (by decide)) (fun _ => ?_)
                  refine e_aload_n (i := 0) 29 dX12_keyAt_28 rfl rfl rfl ?_
                  refine e_geti (j := 6) 32 fl_12_97 dX12_keyAt_29 at_928 (by decide) rfl rfl (fun r29 => ?_)
                  simp (disch := omega) only [put_r6, put_w6, put_r7, put_w7, put_r9, put_w9, put_r10, put_w10, put_r11, put_w11, put_r12, put_w12, put_r13, put_w13, put_r14, put_w14, put_r15, put_w15, put_ra, put_r8, put_r0, put_rt, put_wa, u1, u2, hn8] at r29 ⊢
                  refine e_iload_n (i := 3) 33 dX12_keyAt_32 rfl rfl rfl ?_
                  refine e_iadd 34 dX12_keyAt_33 rfl ?_
                  refine e_aload_n (i := 0) 35 dX12_keyAt_34 rfl rfl rfl ?_
                  refine e_geti (j := 7) 38 fl_12_100 dX12_keyAt_35 at_928 (by decide) rfl rfl (fun r35 => ?_)
                  simp (disch := omega) only [put_r6, put_w6, put_r7, put_w7, put_r9, put_w9, put_r10, put_w10, put_r11, put_w11, put_r12, put_w12, put_r13, put_w13, put_r14, put_w14, put_r15, put_w15, put_ra, put_r8, put_r0, put_rt, put_wa, u1, u2, hn8] at r35 ⊢
                  refine e_icmp_ge 41 69 dX12_keyAt_38 (by omega) (by omega) (by decide) rfl (fun b38 => ?_) (fun b38 => ?_)
                  · skip
                    refine e_ldcS 71 (i := 20) (by decide) rfl rfl dX12_keyAt_69 rfl ?_
                    refine e_iload_n (i := 2) 72 dX12_keyAt_71 rfl rfl rfl ?_
                    refine e_iload_n (i := 3) 73 dX12_keyAt_72 rfl rfl rfl ?_
                    refine e_iadd 74 dX12_keyAt_73 rfl ?_
                    refine e_callF (av := [jI _]) 77 (i := 20) (by decide) mt_yJ_charAt mv_yJ_charAt wd_1410 (by decide) dX12_keyAt_74 rfl rfl rfl (Nat.le_of_ble_eq_true rfl) (jroom (by decide)) rfl (c_charAt (i := 20) (k := 19) (z := 116) (by decide) (by decide) (by decide +kernel) ?_)
                    dsimp only [jpush]
                    (try simp (disch := omega) only [put_r6, put_w6, put_r7, put_w7, put_r9, put_w9, put_r10, put_w10, put_r11, put_w11, put_r12, put_w12, put_r13, put_w13, put_r14, put_w14, put_r15, put_w15, put_ra, put_r8, put_r0, put_rt, put_wa, u1, u2, hn8])
                    refine e_bipush 79 dX12_keyAt_77 (by decide) rfl ?_
                    refine e_icmp_ne 82 97 dX12_keyAt_79 (by decide) (by decide) (by decide) rfl (fun _ => ?_) (fun h => absurd h (by decide))
                    refine e_ls (ls2 := [(0, _), (1, _), (2, _)]) rfl ?_
                    refine sk_3 (kk_4 hT hp hb ?_)
                    rw [kx3, if_neg (fun q => by omega)] at h
                    exact h
                  · skip
                    refine e_aload_n (i := 0) 42 dX12_keyAt_41 rfl rfl rfl ?_
                    refine e_getr (j := 3) 45 fl_12_21 dX12_keyAt_42 at_928 rfl rfl tp_928_3 rfl ?_
                    refine e_aload_n (i := 0) 46 dX12_keyAt_45 rfl rfl rfl ?_
                    refine e_geti (j := 6) 49 fl_12_97 dX12_keyAt_46 at_928 (by decide) rfl rfl (fun r46 => ?_)
                    simp (disch := omega) only [put_r6, put_w6, put_r7, put_w7, put_r9, put_w9, put_r10, put_w10, put_r11, put_w11, put_r12, put_w12, put_r13, put_w13, put_r14, put_w14, put_r15, put_w15, put_ra, put_r8, put_r0, put_rt, put_wa, u1, u2, hn8] at r46 ⊢
                    refine e_iload_n (i := 3) 50 dX12_keyAt_49 rfl rfl rfl ?_
                    refine e_iadd 51 dX12_keyAt_50 rfl ?_
                    refine e_iald 52 dX12_keyAt_51 ar_931 (by omega) (by omega) rfl (fun r51 => ?_)
                    simp (disch := omega) only [put_r6, put_w6, put_r7, put_w7, put_r9, put_w9, put_r10, put_w10, put_r11, put_w11, put_r12, put_w12, put_r13, put_w13, put_r14, put_w14, put_r15, put_w15, put_ra, put_r8, put_r0, put_rt, put_wa, u1, u2, hn8, Int.reduceAdd, Int.add_zero] at r51 ⊢
                    refine e_ldcS 54 (i := 20) (by decide) rfl rfl dX12_keyAt_52 rfl ?_
                    refine e_iload_n (i := 2) 55 dX12_keyAt_54 rfl rfl rfl ?_
                    refine e_iload_n (i := 3) 56 dX12_keyAt_55 rfl rfl rfl ?_
                    refine e_iadd 57 dX12_keyAt_56 rfl ?_
                    refine e_callF (av := [jI _]) 60 (i := 20) (by decide) mt_yJ_charAt mv_yJ_charAt wd_1410 (by decide) dX12_keyAt_57 rfl rfl rfl (Nat.le_of_ble_eq_true rfl) (jroom (by decide)) rfl (c_charAt (i := 20) (k := 19) (z := 116) (by decide) (by decide) (by decide +kernel) ?_)
                    dsimp only [jpush]
                    (try simp (disch := omega) only [put_r6, put_w6, put_r7, put_w7, put_r9, put_w9, put_r10, put_w10, put_r11, put_w11, put_r12, put_w12, put_r13, put_w13, put_r14, put_w14, put_r15, put_w15, put_ra, put_r8, put_r0, put_rt, put_wa, u1, u2, hn8])
                    refine e_icmp_ne 63 69 dX12_keyAt_60 (by omega) (by decide) (by decide) rfl (fun b60 => ?_) (fun b60 => ?_)
                    · skip
                      refine e_ldcS 71 (i := 20) (by decide) rfl rfl dX12_keyAt_69 rfl ?_
                      refine e_iload_n (i := 2) 72 dX12_keyAt_71 rfl rfl rfl ?_
                      refine e_iload_n (i := 3) 73 dX12_keyAt_72 rfl rfl rfl ?_
                      refine e_iadd 74 dX12_keyAt_73 rfl ?_
                      refine e_callF (av := [jI _]) 77 (i := 20) (by decide) mt_yJ_charAt mv_yJ_charAt wd_1410 (by decide) dX12_keyAt_74 rfl rfl rfl (Nat.le_of_ble_eq_true rfl) (jroom (by decide)) rfl (c_charAt (i := 20) (k := 19) (z := 116) (by decide) (by decide) (by decide +kernel) ?_)
                      dsimp only [jpush]
                      (try simp (disch := omega) only [put_r6, put_w6, put_r7, put_w7, put_r9, put_w9, put_r10, put_w10, put_r11, put_w11, put_r12, put_w12, put_r13, put_w13, put_r14, put_w14, put_r15, put_w15, put_ra, put_r8, put_r0, put_rt, put_wa, u1, u2, hn8])
                      refine e_bipush 79 dX12_keyAt_77 (by decide) rfl ?_
                      refine e_icmp_ne 82 97 dX12_keyAt_79 (by decide) (by decide) (by decide) rfl (fun _ => ?_) (fun h => absurd h (by decide))
                      refine e_ls (ls2 := [(0, _), (1, _), (2, _)]) rfl ?_
                      refine sk_3 (kk_4 hT hp hb ?_)
                      rw [kx3, if_neg (fun q => by omega)] at h
                      exact h
                    · skip
                      refine e_iinc (lsn := [(3, _), (0, _), (1, _), (2, _)]) 66 dX12_keyAt_63 rfl (by decide) rfl rfl ?_
                      refine e_goto 15 dX12_keyAt_66 (by decide) ?_
                      refine e_ldcS 17 (i := 20) (by decide) rfl rfl dX12_keyAt_15 rfl ?_
                      refine e_iload_n (i := 2) 18 dX12_keyAt_17 rfl rfl rfl ?_
                      refine e_iload_n (i := 3) 19 dX12_keyAt_18 rfl rfl rfl ?_
                      refine e_iadd 20 dX12_keyAt_19 rfl ?_
                      refine e_callF (av := [jI _]) 23 (i := 20) (by decide) mt_yJ_charAt mv_yJ_charAt wd_1410 (by decide) dX12_keyAt_20 rfl rfl rfl (Nat.le_of_ble_eq_true rfl) (jroom (by decide)) rfl (c_charAt (i := 20) (k := 20) (z := 32) (by decide) (by decide) (by decide +kernel) ?_)
                      dsimp only [jpush]
                      (try simp (disch := omega) only [put_r6, put_w6, put_r7, put_w7, put_r9, put_w9, put_r10, put_w10, put_r11, put_w11, put_r12, put_w12, put_r13, put_w13, put_r14, put_w14, put_r15, put_w15, put_ra, put_r8, put_r0, put_rt, put_wa, u1, u2, hn8])
                      refine e_bipush 25 dX12_keyAt_23 (by decide) rfl ?_
                      refine e_icmp_eq 28 69 dX12_keyAt_25 (by decide) (by decide) (by decide) rfl (fun _ => ?_) (fun h => absurd h (by decide))
                      refine e_ldcS 71 (i := 20) (by decide) rfl rfl dX12_keyAt_69 rfl ?_
                      refine e_iload_n (i := 2) 72 dX12_keyAt_71 rfl rfl rfl ?_
                      refine e_iload_n (i := 3) 73 dX12_keyAt_72 rfl rfl rfl ?_
                      refine e_iadd 74 dX12_keyAt_73 rfl ?_
                      refine e_callF (av := [jI _]) 77 (i := 20) (by decide) mt_yJ_charAt mv_yJ_charAt wd_1410 (by decide) dX12_keyAt_74 rfl rfl rfl (Nat.le_of_ble_eq_true rfl) (jroom (by decide)) rfl (c_charAt (i := 20) (k := 20) (z := 32) (by decide) (by decide) (by decide +kernel) ?_)
                      dsimp only [jpush]
                      (try simp (disch := omega) only [put_r6, put_w6, put_r7, put_w7, put_r9, put_w9, put_r10, put_w10, put_r11, put_w11, put_r12, put_w12, put_r13, put_w13, put_r14, put_w14, put_r15, put_w15, put_ra, put_r8, put_r0, put_rt, put_wa, u1, u2, hn8])
                      refine e_bipush 79 dX12_keyAt_77 (by decide) rfl ?_
                      refine e_icmp_ne 82 97 dX12_keyAt_79 (by decide) (by decide) (by decide) rfl (fun h => absurd h (by decide)) (fun _ => ?_)
                      refine e_aload_n (i := 0) 83 dX12_keyAt_82 rfl rfl rfl ?_
                      refine e_geti (j := 6) 86 fl_12_97 dX12_keyAt_83 at_928 (by decide) rfl rfl (fun r83 => ?_)
                      simp (disch := omega) only [put_r6, put_w6, put_r7, put_w7, put_r9, put_w9, put_r10, put_w10, put_r11, put_w11, put_r12, put_w12, put_r13, put_w13, put_r14, put_w14, put_r15, put_w15, put_ra, put_r8, put_r0, put_rt, put_wa, u1, u2, hn8] at r83 ⊢
                      refine e_iload_n (i := 3) 87 dX12_keyAt_86 rfl rfl rfl ?_
                      refine e_iadd 88 dX12_keyAt_87 rfl ?_
                      refine e_aload_n (i := 0) 89 dX12_keyAt_88 rfl rfl rfl ?_
                      refine e_geti (j := 7) 92 fl_12_100 dX12_keyAt_89 at_928 (by decide) rfl rfl (fun r89 => ?_)
                      simp (disch := omega) only [put_r6, put_w6, put_r7, put_w7, put_r9, put_w9, put_r10, put_w10, put_r11, put_w11, put_r12, put_w12, put_r13, put_w13, put_r14, put_w14, put_r15, put_w15, put_ra, put_r8, put_r0, put_rt, put_wa, u1, u2, hn8] at r89 ⊢
                      refine e_icmp_ne 95 97 dX12_keyAt_92 (by omega) (by omega) (by decide) rfl (fun b92 => ?_) (fun b92 => ?_)
                      · skip
                        refine e_ls (ls2 := [(0, _), (1, _), (2, _)]) rfl ?_
                        refine sk_3 (kk_4 hT hp hb ?_)
                        rw [kx3, if_neg (fun q => by omega)] at h
                        exact h
                      · skip
                        refine e_iload_n (i := 1) 96 dX12_keyAt_95 rfl rfl rfl ?_
                        refine e_iret dX12_keyAt_96 ?_
                        rw [kx3, if_pos (by omega)] at h
                        exact h

theorem sk_2 {X : jX} {Y : jM} {Q : Int → jM → Prop} (h : jE X yX12_keyAt cX12_keyAt 4 (some .int) 5 Q Y 4 [(0, jR 928), (1, jI 3), (2, jI 15)] []) : jE X yX12_keyAt cX12_keyAt 4 (some .int) 5 Q Y 97 [(0, jR 928), (1, jI 2), (2, jI 11)] [] := by
  refine e_ldcS 99 (i := 20) (by decide) rfl rfl dX12_keyAt_97 rfl ?_
  refine e_iload_n (i := 2) 100 dX12_keyAt_99 rfl rfl rfl ?_
  refine e_callF (av := [jI _]) 103 (i := 20) (by decide) mt_yJ_charAt mv_yJ_charAt wd_1410 (by decide) dX12_keyAt_100 rfl rfl rfl (Nat.le_of_ble_eq_true rfl) (jroom (by decide)) rfl (c_charAt (i := 20) (k := 11) (z := 112) (by decide) (by decide) (by decide +kernel) ?_)
  dsimp only [jpush]
  refine e_bipush 105 dX12_keyAt_103 (by decide) rfl ?_
  refine e_icmp_eq 108 114 dX12_keyAt_105 (by decide) (by decide) (by decide) rfl (fun h => absurd h (by decide)) (fun _ => ?_)
  refine e_iinc (lsn := [(2, _), (0, _), (1, _)]) 111 dX12_keyAt_108 rfl (by decide) rfl rfl ?_
  refine e_goto 97 dX12_keyAt_111 (by decide) ?_
  refine e_ldcS 99 (i := 20) (by decide) rfl rfl dX12_keyAt_97 rfl ?_
  refine e_iload_n (i := 2) 100 dX12_keyAt_99 rfl rfl rfl ?_
  refine e_callF (av := [jI _]) 103 (i := 20) (by decide) mt_yJ_charAt mv_yJ_charAt wd_1410 (by decide) dX12_keyAt_100 rfl rfl rfl (Nat.le_of_ble_eq_true rfl) (jroom (by decide)) rfl (c_charAt (i := 20) (k := 12) (z := 101) (by decide) (by decide) (by decide +kernel) ?_)
  dsimp only [jpush]
  refine e_bipush 105 dX12_keyAt_103 (by decide) rfl ?_
  refine e_icmp_eq 108 114 dX12_keyAt_105 (by decide) (by decide) (by decide) rfl (fun h => absurd h (by decide)) (fun _ => ?_)
  refine e_iinc (lsn := [(2, _), (0, _), (1, _)]) 111 dX12_keyAt_108 rfl (by decide) rfl rfl ?_
  refine e_goto 97 dX12_keyAt_111 (by decide) ?_
  refine e_ldcS 99 (i := 20) (by decide) rfl rfl dX12_keyAt_97 rfl ?_
  refine e_iload_n (i := 2) 100 dX12_keyAt_99 rfl rfl rfl ?_
  refine e_callF (av := [jI _]) 103 (i := 20) (by decide) mt_yJ_charAt mv_yJ_charAt wd_1410 (by decide) dX12_keyAt_100 rfl rfl rfl (Nat.le_of_ble_eq_true rfl) (jroom (by decide)) rfl (c_charAt (i := 20) (k := 13) (z := 114) (by decide) (by decide) (by decide +kernel) ?_)
  dsimp only [jpush]
  refine e_bipush 105 dX12_keyAt_103 (by decide) rfl ?_
  refine e_icmp_eq 108 114 dX12_keyAt_105 (by decide) (by decide) (by decide) rfl (fun h => absurd h (by decide)) (fun _ => ?_)
  refine e_iinc (lsn := [(2, _), (0, _), (1, _)]) 111 dX12_keyAt_108 rfl (by decide) rfl rfl ?_
  refine e_goto 97 dX12_keyAt_111 (by decide) ?_
  refine e_ldcS 99 (i := 20) (by decide) rfl rfl dX12_keyAt_97 rfl ?_
  refine e_iload_n (i := 2) 100 dX12_keyAt_99 rfl rfl rfl ?_
  refine e_callF (av := [jI _]) 103 (i := 20) (by decide) mt_yJ_charAt mv_yJ_charAt wd_1410 (by decide) dX12_keyAt_100 rfl rfl rfl (Nat.le_of_ble_eq_true rfl) (jroom (by decide)) rfl (c_charAt (i := 20) (k := 14) (z := 32) (by decide) (by decide) (by decide +kernel) ?_)
  dsimp only [jpush]
  refine e_bipush 105 dX12_keyAt_103 (by decide) rfl ?_
  refine e_icmp_eq 108 114 dX12_keyAt_105 (by decide) (by decide) (by decide) rfl (fun _ => ?_) (fun h => absurd h (by decide))
  refine e_iinc (lsn := [(2, _), (0, _), (1, _)]) 117 dX12_keyAt_114 rfl (by decide) rfl rfl ?_
  refine e_iinc (lsn := [(1, _), (2, _), (0, _)]) 120 dX12_keyAt_117 rfl (by decide) rfl rfl ?_
  refine e_goto 4 dX12_keyAt_120 (by decide) ?_
  refine e_ls (ls2 := [(0, _), (1, _), (2, _)]) rfl ?_
  exact h

theorem kk_2 {X : jX} {M : jM} {n : Int} {Q : Int → jM → Prop} (hT : RT M n) {s : PS} (hp : 0 ≤ s.1) (hb : s.1 ≤ s.2.1 ∧ s.2.1 ≤ n) (h : Q (kx2 (M 931) s.1 s.2.1) (put M s)) : jE X yX12_keyAt cX12_keyAt 4 (some .int) 5 Q (put M s) 4 [(0, jR 928), (1, jI 2), (2, jI 11)] [] := by
  have hn8 := hT.1
  have hn := hT.2.1
  refine e_iload_n (i := 2) 5 dX12_keyAt_4 rfl rfl rfl ?_
  refine e_ldcS 7 (i := 20) (by decide) rfl rfl dX12_keyAt_5 rfl ?_
  refine e_callF (av := []) 10 (i := 20) (by decide) mt_yJ_len mv_yJ_len wd_1409 (by decide) dX12_keyAt_7 rfl rfl rfl (Nat.le_of_ble_eq_true rfl) (jroom (by decide)) rfl (c_strlen (i := 20) (z := 99) (by decide) (by decide) ?_)
  dsimp only [jpush]
  (try simp (disch := omega) only [put_r6, put_w6, put_r7, put_w7, put_r9, put_w9, put_r10, put_w10, put_r11, put_w11, put_r12, put_w12, put_r13, put_w13, put_r14, put_w14, put_r15, put_w15, put_ra, put_r8, put_r0, put_rt, put_wa, u1, u2, hn8])
  refine e_icmp_ge 13 123 dX12_keyAt_10 (by decide) (by decide) (by decide) rfl (fun h => absurd h (by decide)) (fun _ => ?_)
  refine e_iconst 14 dX12_keyAt_13 rfl ?_
  refine e_istore_n (i := 3) (lsn := [(3, _), (0, _), (1, _), (2, _)]) 15 dX12_keyAt_14 rfl (by decide) rfl rfl ?_
  refine e_ldcS 17 (i := 20) (by decide) rfl rfl dX12_keyAt_15 rfl ?_
  refine e_iload_n (i := 2) 18 dX12_keyAt_17 rfl rfl rfl ?_
  refine e_iload_n (i := 3) 19 dX12_keyAt_18 rfl rfl rfl ?_
  refine e_iadd 20 dX12_keyAt_19 rfl ?_
  refine e_callF (av := [jI _]) 23 (i := 20) (by decide) mt_yJ_charAt mv_yJ_charAt wd_1410 (by decide) dX12_keyAt_20 rfl rfl rfl (Nat.le_of_ble_eq_true rfl) (jroom (by decide)) rfl (c_charAt (i := 20) (k := 11) (z := 112) (by decide) (by decide) (by decide +kernel) ?_)
  dsimp only [jpush]
  (try simp (disch := omega) only [put_r6, put_w6, put_r7, put_w7, put_r9, put_w9, put_r10, put_w10, put_r11, put_w11, put_r12, put_w12, put_r13, put_w13, put_r14, put_w14, put_r15, put_w15, put_ra, put_r8, put_r0, put_rt, put_wa, u1, u2, hn8])
  refine e_bipush 25 dX12_keyAt_23 (by decide) rfl ?_
  refine e_icmp_eq 28 69 dX12_keyAt_25 (by decide) (by decide) (by decide) rfl (fun h => absurd h (by decide)) (fun _ => ?_)
  refine e_aload_n (i := 0) 29 dX12_keyAt_28 rfl rfl rfl ?_
  refine e_geti (j := 6) 32 fl_12_97 dX12_keyAt_29 at_928 (by decide) rfl rfl (fun r29 => ?_)
  simp (disch := omega) only [put_r6, put_w6, put_r7, put_w7, put_r9, put_w9, put_r10, put_w10, put_r11, put_w11, put_r12, put_w12, put_r13, put_w13, put_r14, put_w14, put_r15, put_w15, put_ra, put_r8, put_r0, put_rt, put_wa, u1, u2, hn8] at r29 ⊢
  refine e_iload_n (i := 3) 33 dX12_keyAt_32 rfl rfl rfl ?_
  refine e_iadd 34 dX12_keyAt_33 rfl ?_
  refine e_aload_n (i := 0) 35 dX12_keyAt_34 rfl rfl rfl ?_
  refine e_geti (j := 7) 38 fl_12_100 dX12_keyAt_35 at_928 (by decide) rfl rfl (fun r35 => ?_)
  simp (disch := omega) only [put_r6, put_w6, put_r7, put_w7, put_r9, put_w9, put_r10, put_w10, put_r11, put_w11, put_r12, put_w12, put_r13, put_w13, put_r14, put_w14, put_r15, put_w15, put_ra, put_r8, put_r0, put_rt, put_wa, u1, u2, hn8] at r35 ⊢
  refine e_icmp_ge 41 69 dX12_keyAt_38 (by omega) (by omega) (by decide) rfl (fun b38 => ?_) (fun b38 => ?_)
  · skip
    refine e_ldcS 71 (i := 20) (by decide) rfl rfl dX12_keyAt_69 rfl ?_
    refine e_iload_n (i := 2) 72 dX12_keyAt_71 rfl rfl rfl ?_
    refine e_iload_n (i := 3) 73 dX12_keyAt_72 rfl rfl rfl ?_
    refine e_iadd 74 dX12_keyAt_73 rfl ?_
    refine e_callF (av := [jI _]) 77 (i := 20) (by decide) mt_yJ_charAt mv_yJ_charAt wd_1410 (by decide) dX12_keyAt_74 rfl rfl rfl (Nat.le_of_ble_eq_true rfl) (jroom (by decide)) rfl (c_charAt (i := 20) (k := 11) (z := 112) (by decide) (by decide) (by decide +kernel) ?_)
    dsimp only [jpush]
    (try simp (disch := omega) only [put_r6, put_w6, put_r7, put_w7, put_r9, put_w9, put_r10, put_w10, put_r11, put_w11, put_r12, put_w12, put_r13, put_w13, put_r14, put_w14, put_r15, put_w15, put_ra, put_r8, put_r0, put_rt, put_wa, u1, u2, hn8])
    refine e_bipush 79 dX12_keyAt_77 (by decide) rfl ?_
    refine e_icmp_ne 82 97 dX12_keyAt_79 (by decide) (by decide) (by decide) rfl (fun _ => ?_) (fun h => absurd h (by decide))
    refine e_ls (ls2 := [(0, _), (1, _), (2, _)]) rfl ?_
    refine sk_2 (kk_3 hT hp hb ?_)
    rw [kx2, if_neg (fun q => by omega)] at h
    exact h
  · skip
    refine e_aload_n (i := 0) 42 dX12_keyAt_41 rfl rfl rfl ?_
    refine e_getr (j := 3) 45 fl_12_21 dX12_keyAt_42 at_928 rfl rfl tp_928_3 rfl ?_
    refine e_aload_n (i := 0) 46 dX12_keyAt_45 rfl rfl rfl ?_
    refine e_geti (j := 6) 49 fl_12_97 dX12_keyAt_46 at_928 (by decide) rfl rfl (fun r46 => ?_)
    simp (disch := omega) only [put_r6, put_w6, put_r7, put_w7, put_r9, put_w9, put_r10, put_w10, put_r11, put_w11, put_r12, put_w12, put_r13, put_w13, put_r14, put_w14, put_r15, put_w15, put_ra, put_r8, put_r0, put_rt, put_wa, u1, u2, hn8] at r46 ⊢
    refine e_iload_n (i := 3) 50 dX12_keyAt_49 rfl rfl rfl ?_
    refine e_iadd 51 dX12_keyAt_50 rfl ?_
    refine e_iald 52 dX12_keyAt_51 ar_931 (by omega) (by omega) rfl (fun r51 => ?_)
    simp (disch := omega) only [put_r6, put_w6, put_r7, put_w7, put_r9, put_w9, put_r10, put_w10, put_r11, put_w11, put_r12, put_w12, put_r13, put_w13, put_r14, put_w14, put_r15, put_w15, put_ra, put_r8, put_r0, put_rt, put_wa, u1, u2, hn8, Int.reduceAdd, Int.add_zero] at r51 ⊢
    refine e_ldcS 54 (i := 20) (by decide) rfl rfl dX12_keyAt_52 rfl ?_
    refine e_iload_n (i := 2) 55 dX12_keyAt_54 rfl rfl rfl ?_
    refine e_iload_n (i := 3) 56 dX12_keyAt_55 rfl rfl rfl ?_
    refine e_iadd 57 dX12_keyAt_56 rfl ?_
    refine e_callF (av := [jI _]) 60 (i := 20) (by decide) mt_yJ_charAt mv_yJ_charAt wd_1410 (by decide) dX12_keyAt_57 rfl rfl rfl (Nat.le_of_ble_eq_true rfl) (jroom (by decide)) rfl (c_charAt (i := 20) (k := 11) (z := 112) (by decide) (by decide) (by decide +kernel) ?_)
    dsimp only [jpush]
    (try simp (disch := omega) only [put_r6, put_w6, put_r7, put_w7, put_r9, put_w9, put_r10, put_w10, put_r11, put_w11, put_r12, put_w12, put_r13, put_w13, put_r14, put_w14, put_r15, put_w15, put_ra, put_r8, put_r0, put_rt, put_wa, u1, u2, hn8])
    refine e_icmp_ne 63 69 dX12_keyAt_60 (by omega) (by decide) (by decide) rfl (fun b60 => ?_) (fun b60 => ?_)
    · skip
      refine e_ldcS 71 (i := 20) (by decide) rfl rfl dX12_keyAt_69 rfl ?_
      refine e_iload_n (i := 2) 72 dX12_keyAt_71 rfl rfl rfl ?_
      refine e_iload_n (i := 3) 73 dX12_keyAt_72 rfl rfl rfl ?_
      refine e_iadd 74 dX12_keyAt_73 rfl ?_
      refine e_callF (av := [jI _]) 77 (i := 20) (by decide) mt_yJ_charAt mv_yJ_charAt wd_1410 (by decide) dX12_keyAt_74 rfl rfl rfl (Nat.le_of_ble_eq_true rfl) (jroom (by decide)) rfl (c_charAt (i := 20) (k := 11) (z := 112) (by decide) (by decide) (by decide +kernel) ?_)
      dsimp only [jpush]
      (try simp (disch := omega) only [put_r6, put_w6, put_r7, put_w7, put_r9, put_w9, put_r10, put_w10, put_r11, put_w11, put_r12, put_w12, put_r13, put_w13, put_r14, put_w14, put_r15, put_w15, put_ra, put_r8, put_r0, put_rt, put_wa, u1, u2, hn8])
      refine e_bipush 79 dX12_keyAt_77 (by decide) rfl ?_
      refine e_icmp_ne 82 97 dX12_keyAt_79 (by decide) (by decide) (by decide) rfl (fun _ => ?_) (fun h => absurd h (by decide))
      refine e_ls (ls2 := [(0, _), (1, _), (2, _)]) rfl ?_
      refine sk_2 (kk_3 hT hp hb ?_)
      rw [kx2, if_neg (fun q => by omega)] at h
      exact h
    · skip
      refine e_iinc (lsn := [(3, _), (0, _), (1, _), (2, _)]) 66 dX12_keyAt_63 rfl (by decide) rfl rfl ?_
      refine e_goto 15 dX12_keyAt_66 (by decide) ?_
      refine e_ldcS 17 (i := 20) (by decide) rfl rfl dX12_keyAt_15 rfl ?_
      refine e_iload_n (i := 2) 18 dX12_keyAt_17 rfl rfl rfl ?_
      refine e_iload_n (i := 3) 19 dX12_keyAt_18 rfl rfl rfl ?_
      refine e_iadd 20 dX12_keyAt_19 rfl ?_
      refine e_callF (av := [jI _]) 23 (i := 20) (by decide) mt_yJ_charAt mv_yJ_charAt wd_1410 (by decide) dX12_keyAt_20 rfl rfl rfl (Nat.le_of_ble_eq_true rfl) (jroom (by decide)) rfl (c_charAt (i := 20) (k := 12) (z := 101) (by decide) (by decide) (by decide +kernel) ?_)
      dsimp only [jpush]
      (try simp (disch := omega) only [put_r6, put_w6, put_r7, put_w7, put_r9, put_w9, put_r10, put_w10, put_r11, put_w11, put_r12, put_w12, put_r13, put_w13, put_r14, put_w14, put_r15, put_w15, put_ra, put_r8, put_r0, put_rt, put_wa, u1, u2, hn8])
      refine e_bipush 25 dX12_keyAt_23 (by decide) rfl ?_
      refine e_icmp_eq 28 69 dX12_keyAt_25 (by decide) (by decide) (by decide) rfl (fun h => absurd h (by decide)) (fun _ => ?_)
      refine e_aload_n (i := 0) 29 dX12_keyAt_28 rfl rfl rfl ?_
      refine e_geti (j := 6) 32 fl_12_97 dX12_keyAt_29 at_928 (by decide) rfl rfl (fun r29 => ?_)
      simp (disch := omega) only [put_r6, put_w6, put_r7, put_w7, put_r9, put_w9, put_r10, put_w10, put_r11, put_w11, put_r12, put_w12, put_r13, put_w13, put_r14, put_w14, put_r15, put_w15, put_ra, put_r8, put_r0, put_rt, put_wa, u1, u2, hn8] at r29 ⊢
      refine e_iload_n (i := 3) 33 dX12_keyAt_32 rfl rfl rfl ?_
      refine e_iadd 34 dX12_keyAt_33 rfl ?_
      refine e_aload_n (i := 0) 35 dX12_keyAt_34 rfl rfl rfl ?_
      refine e_geti (j := 7) 38 fl_12_100 dX12_keyAt_35 at_928 (by decide) rfl rfl (fun r35 => ?_)
      simp (disch := omega) only [put_r6, put_w6, put_r7, put_w7, put_r9, put_w9, put_r10, put_w10, put_r11, put_w11, put_r12, put_w12, put_r13, put_w13, put_r14, put_w14, put_r15, put_w15, put_ra, put_r8, put_r0, put_rt, put_wa, u1, u2, hn8] at r35 ⊢
      refine e_icmp_ge 41 69 dX12_keyAt_38 (by omega) (by omega) (by decide) rfl (fun b38 => ?_) (fun b38 => ?_)
      · skip
        refine e_ldcS 71 (i := 20) (by decide) rfl rfl dX12_keyAt_69 rfl ?_
        refine e_iload_n (i := 2) 72 dX12_keyAt_71 rfl rfl rfl ?_
        refine e_iload_n (i := 3) 73 dX12_keyAt_72 rfl rfl rfl ?_
        refine e_iadd 74 dX12_keyAt_73 rfl ?_
        refine e_callF (av := [jI _]) 77 (i := 20) (by decide) mt_yJ_charAt mv_yJ_charAt wd_1410 (by decide) dX12_keyAt_74 rfl rfl rfl (Nat.le_of_ble_eq_true rfl) (jroom (by decide)) rfl (c_charAt (i := 20) (k := 12) (z := 101) (by decide) (by decide) (by decide +kernel) ?_)
        dsimp only [jpush]
        (try simp (disch := omega) only [put_r6, put_w6, put_r7, put_w7, put_r9, put_w9, put_r10, put_w10, put_r11, put_w11, put_r12, put_w12, put_r13, put_w13, put_r14, put_w14, put_r15, put_w15, put_ra, put_r8, put_r0, put_rt, put_wa, u1, u2, hn8])
        refine e_bipush 79 dX12_keyAt_77 (by decide) rfl ?_
        refine e_icmp_ne 82 97 dX12_keyAt_79 (by decide) (by decide) (by decide) rfl (fun _ => ?_) (fun h => absurd h (by decide))
        refine e_ls (ls2 := [(0, _), (1, _), (2, _)]) rfl ?_
        refine sk_2 (kk_3 hT hp hb ?_)
        rw [kx2, if_neg (fun q => by omega)] at h
        exact h
      · skip
        refine e_aload_n (i := 0) 42 dX12_keyAt_41 rfl rfl rfl ?_
        refine e_getr (j := 3) 45 fl_12_21 dX12_keyAt_42 at_928 rfl rfl tp_928_3 rfl ?_
        refine e_aload_n (i := 0) 46 dX12_keyAt_45 rfl rfl rfl ?_
        refine e_geti (j := 6) 49 fl_12_97 dX12_keyAt_46 at_928 (by decide) rfl rfl (fun r46 => ?_)
        simp (disch := omega) only [put_r6, put_w6, put_r7, put_w7, put_r9, put_w9, put_r10, put_w10, put_r11, put_w11, put_r12, put_w12, put_r13, put_w13, put_r14, put_w14, put_r15, put_w15, put_ra, put_r8, put_r0, put_rt, put_wa, u1, u2, hn8] at r46 ⊢
        refine e_iload_n (i := 3) 50 dX12_keyAt_49 rfl rfl rfl ?_
        refine e_iadd 51 dX12_keyAt_50 rfl ?_
        refine e_iald 52 dX12_keyAt_51 ar_931 (by omega) (by omega) rfl (fun r51 => ?_)
        simp (disch := omega) only [put_r6, put_w6, put_r7, put_w7, put_r9, put_w9, put_r10, put_w10, put_r11, put_w11, put_r12, put_w12, put_r13, put_w13, put_r14, put_w14, put_r15, put_w15, put_ra, put_r8, put_r0, put_rt, put_wa, u1, u2, hn8, Int.reduceAdd, Int.add_zero] at r51 ⊢
        refine e_ldcS 54 (i := 20) (by decide) rfl rfl dX12_keyAt_52 rfl ?_
        refine e_iload_n (i := 2) 55 dX12_keyAt_54 rfl rfl rfl ?_
        refine e_iload_n (i := 3) 56 dX12_keyAt_55 rfl rfl rfl ?_
        refine e_iadd 57 dX12_keyAt_56 rfl ?_
        refine e_callF (av := [jI _]) 60 (i := 20) (by decide) mt_yJ_charAt mv_yJ_charAt wd_1410 (by decide) dX12_keyAt_57 rfl rfl rfl (Nat.le_of_ble_eq_true rfl) (jroom (by decide)) rfl (c_charAt (i := 20) (k := 12) (z := 101) (by decide) (by decide) (by decide +kernel) ?_)
        dsimp only [jpush]
        (try simp (disch := omega) only [put_r6, put_w6, put_r7, put_w7, put_r9, put_w9, put_r10, put_w10, put_r11, put_w11, put_r12, put_w12, put_r13, put_w13, put_r14, put_w14, put_r15, put_w15, put_ra, put_r8, put_r0, put_rt, put_wa, u1, u2, hn8])
        refine e_icmp_ne 63 69 dX12_keyAt_60 (by omega) (by decide) (by decide) rfl (fun b60 => ?_) (fun b60 => ?_)
        · skip
          refine e_ldcS 71 (i := 20) (by decide) rfl rfl dX12_keyAt_69 rfl ?_
          refine e_iload_n (i := 2) 72 dX12_keyAt_71 rfl rfl rfl ?_
          refine e_iload_n (i := 3) 73 dX12_keyAt_72 rfl rfl rfl ?_
          refine e_iadd 74 dX12_keyAt_73 rfl ?_
          refine e_callF (av := [jI _]) 77 (i := 20) (by decide) mt_yJ_charAt mv_yJ_charAt wd_1410 (by decide) dX12_keyAt_74 rfl rfl rfl (Nat.le_of_ble_eq_true rfl) (jroom (by decide)) rfl (c_charAt (i := 20) (k := 12) (z := 101) (by decide) (by decide) (by decide +kernel) ?_)
          dsimp only [jpush]
          (try simp (disch := omega) only [put_r6, put_w6, put_r7, put_w7, put_r9, put_w9, put_r10, put_w10, put_r11, put_w11, put_r12, put_w12, put_r13, put_w13, put_r14, put_w14, put_r15, put_w15, put_ra, put_r8, put_r0, put_rt, put_wa, u1, u2, hn8])
          refine e_bipush 79 dX12_keyAt_77 (by decide) rfl ?_
          refine e_icmp_ne 82 97 dX12_keyAt_79 (by decide) (by decide) (by decide) rfl (fun _ => ?_) (fun h => absurd h (by decide))
          refine e_ls (ls2 := [(0, _), (1, _), (2, _)]) rfl ?_
          refine sk_2 (kk_3 hT hp hb ?_)
          rw [kx2, if_neg (fun q => by omega)] at h
          exact h
        · skip
          refine e_iinc (lsn := [(3, _), (0, _), (1, _), (2, _)]) 66 dX12_keyAt_63 rfl (by decide) rfl rfl ?_
          refine e_goto 15 dX12_keyAt_66 (by decide) ?_
          refine e_ldcS 17 (i := 20) (by decide) rfl rfl dX12_keyAt_15 rfl ?_
          refine e_iload_n (i := 2) 18 dX12_keyAt_17 rfl rfl rfl ?_
          refine e_iload_n (i := 3) 19 dX12_keyAt_18 rfl rfl rfl ?_
          refine e_iadd 20 dX12_keyAt_19 rfl ?_
          refine e_callF (av := [jI _]) 23 (i := 20) (by decide) mt_yJ_charAt mv_yJ_charAt wd_1410 (by decide) dX12_keyAt_20 rfl rfl rfl (Nat.le_of_ble_eq_true rfl) (jroom (by decide)) rfl (c_charAt (i := 20) (k := 13) (z := 114) (by decide) (by decide) (by decide +kernel) ?_)
          dsimp only [jpush]
          (try simp (disch := omega) only [put_r6, put_w6, put_r7, put_w7, put_r9, put_w9, put_r10, put_w10, put_r11, put_w11, put_r12, put_w12, put_r13, put_w13, put_r14, put_w14, put_r15, put_w15, put_ra, put_r8, put_r0, put_rt, put_wa, u1, u2, hn8])
          refine e_bipush 25 dX12_keyAt_23 (by decide) rfl ?_
          refine e_icmp_eq 28 69 dX12_keyAt_25 (by decide) (by decide) (by decide) rfl (fun h => absurd h (by decide)) (fun _ => ?_)
          refine e_aload_n (i := 0) 29 dX12_keyAt_28 rfl rfl rfl ?_
          refine e_geti (j := 6) 32 fl_12_97 dX12_keyAt_29 at_928 (by decide) rfl rfl (fun r29 => ?_)
          simp (disch := omega) only [put_r6, put_w6, put_r7, put_w7, put_r9, put_w9, put_r10, put_w10, put_r11, put_w11, put_r12, put_w12, put_r13, put_w13, put_r14, put_w14, put_r15, put_w15, put_ra, put_r8, put_r0, put_rt, put_wa, u1, u2, hn8] at r29 ⊢
          refine e_iload_n (i := 3) 33 dX12_keyAt_32 rfl rfl rfl ?_
          refine e_iadd 34 dX12_keyAt_33 rfl ?_
          refine e_aload_n (i := 0) 35 dX12_keyAt_34 rfl rfl rfl ?_
          refine e_geti (j := 7) 38 fl_12_100 dX12_keyAt_35 at_928 (by decide) rfl rfl (fun r35 => ?_)
          simp (disch := omega) only [put_r6, put_w6, put_r7, put_w7, put_r9, put_w9, put_r10, put_w10, put_r11, put_w11, put_r12, put_w12, put_r13, put_w13, put_r14, put_w14, put_r15, put_w15, put_ra, put_r8, put_r0, put_rt, put_wa, u1, u2, hn8] at r35 ⊢
          refine e_icmp_ge 41 69 dX12_keyAt_38 (by omega) (by omega) (by decide) rfl (fun b38 => ?_) (fun b38 => ?_)
          · skip
            refine e_ldcS 71 (i := 20) (by decide) rfl rfl dX12_keyAt_69 rfl ?_
            refine e_iload_n (i := 2) 72 dX12_keyAt_71 rfl rfl rfl ?_
            refine e_iload_n (i := 3) 73 dX12_keyAt_72 rfl rfl rfl ?_
            refine e_iadd 74 dX12_keyAt_73 rfl ?_
            refine e_callF (av := [jI _]) 77 (i := 20) (by decide) mt_yJ_charAt mv_yJ_charAt wd_1410 (by decide) dX12_keyAt_74 rfl rfl rfl (Nat.le_of_ble_eq_true rfl) (jroom (by decide)) rfl (c_charAt (i := 20) (k := 13) (z := 114) (by decide) (by decide) (by decide +kernel) ?_)
            dsimp only [jpush]
            (try simp (disch := omega) only [put_r6, put_w6, put_r7, put_w7, put_r9, put_w9, put_r10, put_w10, put_r11, put_w11, put_r12, put_w12, put_r13, put_w13, put_r14, put_w14, put_r15, put_w15, put_ra, put_r8, put_r0, put_rt, put_wa, u1, u2, hn8])
            refine e_bipush 79 dX12_keyAt_77 (by decide) rfl ?_
            refine e_icmp_ne 82 97 dX12_keyAt_79 (by decide) (by decide) (by decide) rfl (fun _ => ?_) (fun h => absurd h (by decide))
            refine e_ls (ls2 := [(0, _), (1, _), (2, _)]) rfl ?_
            refine sk_2 (kk_3 hT hp hb ?_)
            rw [kx2, if_neg (fun q => by omega)] at h
            exact h
          · skip
            refine e_aload_n (i := 0) 42 dX12_keyAt_41 rfl rfl rfl ?_
            refine e_getr (j := 3) 45 fl_12_21 dX12_keyAt_42 at_928 rfl rfl tp_928_3 rfl ?_
            refine e_aload_n (i := 0) 46 dX12_keyAt_45 rfl rfl rfl ?_
            refine e_geti (j := 6) 49 fl_12_97 dX12_keyAt_46 at_928 (by decide) rfl rfl (fun r46 => ?_)
            simp (disch := omega) only [put_r6, put_w6, put_r7, put_w7, put_r9, put_w9, put_r10, put_w10, put_r11, put_w11, put_r12, put_w12, put_r13, put_w13, put_r14, put_w14, put_r15, put_w15, put_ra, put_r8, put_r0, put_rt, put_wa, u1, u2, hn8] at r46 ⊢
            refine e_iload_n (i := 3) 50 dX12_keyAt_49 rfl rfl rfl ?_
            refine e_iadd 51 dX12_keyAt_50 rfl ?_
            refine e_iald 52 dX12_keyAt_51 ar_931 (by omega) (by omega) rfl (fun r51 => ?_)
            simp (disch := omega) only [put_r6, put_w6, put_r7, put_w7, put_r9, put_w9, put_r10, put_w10, put_r11, put_w11, put_r12, put_w12, put_r13, put_w13, put_r14, put_w14, put_r15, put_w15, put_ra, put_r8, put_r0, put_rt, put_wa, u1, u2, hn8, Int.reduceAdd, Int.add_zero] at r51 ⊢
            refine e_ldcS 54 (i := 20) (by decide) rfl rfl dX12_keyAt_52 rfl ?_
            refine e_iload_n (i := 2) 55 dX12_keyAt_54 rfl rfl rfl ?_
            refine e_iload_n (i := 3) 56 dX12_keyAt_55 rfl rfl rfl ?_
            refine e_iadd 57 dX12_keyAt_56 rfl ?_
            refine e_callF (av := [jI _]) 60 (i := 20) (by decide) mt_yJ_charAt mv_yJ_charAt wd_1410 (by decide) dX12_keyAt_57 rfl rfl rfl (Nat.le_of_ble_eq_true rfl) (jroom (by decide)) rfl (c_charAt (i := 20) (k := 13) (z := 114) (by decide) (by decide) (by decide +kernel) ?_)
            dsimp only [jpush]
            (try simp (disch := omega) only [put_r6, put_w6, put_r7, put_w7, put_r9, put_w9, put_r10, put_w10, put_r11, put_w11, put_r12, put_w12, put_r13, put_w13, put_r14, put_w14, put_r15, put_w15, put_ra, put_r8, put_r0, put_rt, put_wa, u1, u2, hn8])
            refine e_icmp_ne 63 69 dX12_keyAt_60 (by omega) (by decide) (by decide) rfl (fun b60 => ?_) (fun b60 => ?_)
            · skip
              refine e_ldcS 71 (i := 20) (by decide) rfl rfl dX12_keyAt_69 rfl ?_
              refine e_iload_n (i := 2) 72 dX12_keyAt_71 rfl rfl rfl ?_
              refine e_iload_n (i := 3) 73 dX12_keyAt_72 rfl rfl rfl ?_
              refine e_iadd 74 dX12_keyAt_73 rfl ?_
              refine e_callF (av := [jI _]) 77 (i := 20) (by decide) mt_yJ_charAt mv_yJ_charAt wd_1410 (by decide) dX12_keyAt_74 rfl rfl rfl (Nat.le_of_ble_eq_true rfl) (jroom (by decide)) rfl (c_charAt (i := 20) (k := 13) (z := 114) (by decide) (by decide) (by decide +kernel) ?_)
              dsimp only [jpush]
              (try simp (disch := omega) only [put_r6, put_w6, put_r7, put_w7, put_r9, put_w9, put_r10, put_w10, put_r11, put_w11, put_r12, put_w12, put_r13, put_w13, put_r14, put_w14, put_r15, put_w15, put_ra, put_r8, put_r0, put_rt, put_wa, u1, u2, hn8])
              refine e_bipush 79 dX12_keyAt_77 (by decide) rfl ?_
              refine e_icmp_ne 82 97 dX12_keyAt_79 (by decide) (by decide) (by decide) rfl (fun _ => ?_) (fun h => absurd h (by decide))
              refine e_ls (ls2 := [(0, _), (1, _), (2, _)]) rfl ?_
              refine sk_2 (kk_3 hT hp hb ?_)
              rw [kx2, if_neg (fun q => by omega)] at h
              exact h
            · skip
              refine e_iinc (lsn := [(3, _), (0, _), (1, _), (2, _)]) 66 dX12_keyAt_63 rfl (by decide) rfl rfl ?_
              refine e_goto 15 dX12_keyAt_66 (by decide) ?_
              refine e_ldcS 17 (i := 20) (by decide) rfl rfl dX12_keyAt_15 rfl ?_
              refine e_iload_n (i := 2) 18 dX12_keyAt_17 rfl rfl rfl ?_
              refine e_iload_n (i := 3) 19 dX12_keyAt_18 rfl rfl rfl ?_
              refine e_iadd 20 dX12_keyAt_19 rfl ?_
              refine e_callF (av := [jI _]) 23 (i := 20) (by decide) mt_yJ_charAt mv_yJ_charAt wd_1410 (by decide) dX12_keyAt_20 rfl rfl rfl (Nat.le_of_ble_eq_true rfl) (jroom (by decide)) rfl (c_charAt (i := 20) (k := 14) (z := 32) (by decide) (by decide) (by decide +kernel) ?_)
              dsimp only [jpush]
              (try simp (disch := omega) only [put_r6, put_w6, put_r7, put_w7, put_r9, put_w9, put_r10, put_w10, put_r11, put_w11, put_r12, put_w12, put_r13, put_w13, put_r14, put_w14, put_r15, put_w15, put_ra, put_r8, put_r0, put_rt, put_wa, u1, u2, hn8])
              refine e_bipush 25 dX12_keyAt_23 (by decide) rfl ?_
              refine e_icmp_eq 28 69 dX12_keyAt_25 (by decide) (by decide) (by decide) rfl (fun _ => ?_) (fun h => absurd h (by decide))
              refine e_ldcS 71 (i := 20) (by decide) rfl rfl dX12_keyAt_69 rfl ?_
              refine e_iload_n (i := 2) 72 dX12_keyAt_71 rfl rfl rfl ?_
              refine e_iload_n (i := 3) 73 dX12_keyAt_72 rfl rfl rfl ?_
              refine e_iadd 74 dX12_keyAt_73 rfl ?_
              refine e_callF (av := [jI _]) 77 (i := 20) (by decide) mt_yJ_charAt mv_yJ_charAt wd_1410 (by decide) dX12_keyAt_74 rfl rfl rfl (Nat.le_of_ble_eq_true rfl) (jroom (by decide)) rfl (c_charAt (i := 20) (k := 14) (z := 32) (by decide) (by decide) (by decide +kernel) ?_)
              dsimp only [jpush]
              (try simp (disch := omega) only [put_r6, put_w6, put_r7, put_w7, put_r9, put_w9, put_r10, put_w10, put_r11, put_w11, put_r12, put_w12, put_r13, put_w13, put_r14, put_w14, put_r15, put_w15, put_ra, put_r8, put_r0, put_rt, put_wa, u1, u2, hn8])
              refine e_bipush 79 dX12_keyAt_77 (by decide) rfl ?_
              refine e_icmp_ne 82 97 dX12_keyAt_79 (by decide) (by decide) (by decide) rfl (fun h => absurd h (by decide)) (fun _ => ?_)
              refine e_aload_n (i := 0) 83 dX12_keyAt_82 rfl rfl rfl ?_
              refine e_geti (j := 6) 86 fl_12_97 dX12_keyAt_83 at_928 (by decide) rfl rfl (fun r83 => ?_)
              simp (disch := omega) only [put_r6, put_w6, put_r7, put_w7, put_r9, put_w9, put_r10, put_w10, put_r11, put_w11, put_r12, put_w12, put_r13, put_w13, put_r14, put_w14, put_r15, put_w15, put_ra, put_r8, put_r0, put_rt, put_wa, u1, u2, hn8] at r83 ⊢
              refine e_iload_n (i := 3) 87 dX12_keyAt_86 rfl rfl rfl ?_
              refine e_iadd 88 dX12_keyAt_87 rfl ?_
              refine e_aload_n (i := 0) 89 dX12_keyAt_88 rfl rfl rfl ?_
              refine e_geti (j := 7) 92 fl_12_100 dX12_keyAt_89 at_928 (by decide) rfl rfl (fun r89 => ?_)
              simp (disch := omega) only [put_r6, put_w6, put_r7, put_w7, put_r9, put_w9, put_r10, put_w10, put_r11, put_w11, put_r12, put_w12, put_r13, put_w13, put_r14, put_w14, put_r15, put_w15, put_ra, put_r8, put_r0, put_rt, put_wa, u1, u2, hn8] at r89 ⊢
              refine e_icmp_ne 95 97 dX12_keyAt_92 (by omega) (by omega) (by decide) rfl (fun b92 => ?_) (fun b92 => ?_)
              · skip
                refine e_ls (ls2 := [(0, _), (1, _), (2, _)]) rfl ?_
                refine sk_2 (kk_3 hT hp hb ?_)
                rw [kx2, if_neg (fun q => by omega)] at h
                exact h
              · skip
                refine e_iload_n (i := 1) 96 dX12_keyAt_95 rfl rfl rfl ?_
                refine e_iret dX12_keyAt_96 ?_
                rw [kx2, if_pos (by omega)] at h
                exact h

theorem sk_1 {X : jX} {Y : jM} {Q : Int → jM → Prop} (h : jE X yX12_keyAt cX12_keyAt 4 (some .int) 5 Q Y 4 [(0, jR 928), (1, jI 2), (2, jI 11)] []) : jE X yX12_keyAt cX12_keyAt 4 (some .int) 5 Q Y 97 [(0, jR 928), (1, jI 1), (2, jI 6)] [] := by
  refine e_ldcS 99 (i := 20) (by decide) rfl rfl dX12_keyAt_97 rfl ?_
  refine e_iload_n (i := 2) 100 dX12_keyAt_99 rfl rfl rfl ?_
  refine e_callF (av := [jI _]) 103 (i := 20) (by decide) mt_yJ_charAt mv_yJ_charAt wd_1410 (by decide) dX12_keyAt_100 rfl rfl rfl (Nat.le_of_ble_eq_true rfl) (jroom (by decide)) rfl (c_charAt (i := 20) (k := 6) (z := 116) (by decide) (by decide) (by decide +kernel) ?_)
  dsimp only [jpush]
  refine e_bipush 105 dX12_keyAt_103 (by decide) rfl ?_
  refine e_icmp_eq 108 114 dX12_keyAt_105 (by decide) (by decide) (by decide) rfl (fun h => absurd h (by decide)) (fun _ => ?_)
  refine e_iinc (lsn := [(2, _), (0, _), (1, _)]) 111 dX12_keyAt_108 rfl (by decide) rfl rfl ?_
  refine e_goto 97 dX12_keyAt_111 (by decide) ?_
  refine e_ldcS 99 (i := 20) (by decide) rfl rfl dX12_keyAt_97 rfl ?_
  refine e_iload_n (i := 2) 100 dX12_keyAt_99 rfl rfl rfl ?_
  refine e_callF (av := [jI _]) 103 (i := 20) (by decide) mt_yJ_charAt mv_yJ_charAt wd_1410 (by decide) dX12_keyAt_100 rfl rfl rfl (Nat.le_of_ble_eq_true rfl) (jroom (by decide)) rfl (c_charAt (i := 20) (k := 7) (z := 97) (by decide) (by decide) (by decide +kernel) ?_)
  dsimp only [jpush]
  refine e_bipush 105 dX12_keyAt_103 (by decide) rfl ?_
  refine e_icmp_eq 108 114 dX12_keyAt_105 (by decide) (by decide) (by decide) rfl (fun h => absurd h (by decide)) (fun _ => ?_)
  refine e_iinc (lsn := [(2, _), (0, _), (1, _)]) 111 dX12_keyAt_108 rfl (by decide) rfl rfl ?_
  refine e_goto 97 dX12_keyAt_111 (by decide) ?_
  refine e_ldcS 99 (i := 20) (by decide) rfl rfl dX12_keyAt_97 rfl ?_
  refine e_iload_n (i := 2) 100 dX12_keyAt_99 rfl rfl rfl ?_
  refine e_callF (av := [jI _]) 103 (i := 20) (by decide) mt_yJ_charAt mv_yJ_charAt wd_1410 (by decide) dX12_keyAt_100 rfl rfl rfl (Nat.le_of_ble_eq_true rfl) (jroom (by decide)) rfl (c_charAt (i := 20) (k := 8) (z := 107) (by decide) (by decide) (by decide +kernel) ?_)
  dsimp only [jpush]
  refine e_bipush 105 dX12_keyAt_103 (by decide) rfl ?_
  refine e_icmp_eq 108 114 dX12_keyAt_105 (by decide) (by decide) (by decide) rfl (fun h => absurd h (by decide)) (fun _ => ?_)
  refine e_iinc (lsn := [(2, _), (0, _), (1, _)]) 111 dX12_keyAt_108 rfl (by decide) rfl rfl ?_
  refine e_goto 97 dX12_keyAt_111 (by decide) ?_
  refine e_ldcS 99 (i := 20) (by decide) rfl rfl dX12_keyAt_97 rfl ?_
  refine e_iload_n (i := 2) 100 dX12_keyAt_99 rfl rfl rfl ?_
  refine e_callF (av := [jI _]) 103 (i := 20) (by decide) mt_yJ_charAt mv_yJ_charAt wd_1410 (by decide) dX12_keyAt_100 rfl rfl rfl (Nat.le_of_ble_eq_true rfl) (jroom (by decide)) rfl (c_charAt (i := 20) (k := 9) (z := 101) (by decide) (by decide) (by decide +kernel) ?_)
  dsimp only [jpush]
  refine e_bipush 105 dX12_keyAt_103 (by decide) rfl ?_
  refine e_icmp_eq 108 114 dX12_keyAt_105 (by decide) (by decide) (by decide) rfl (fun h => absurd h (by decide)) (fun _ => ?_)
  refine e_iinc (lsn := [(2, _), (0, _), (1, _)]) 111 dX12_keyAt_108 rfl (by decide) rfl rfl ?_
  refine e_goto 97 dX12_keyAt_111 (by decide) ?_
  refine e_ldcS 99 (i := 20) (by decide) rfl rfl dX12_keyAt_97 rfl ?_
  refine e_iload_n (i := 2) 100 dX12_keyAt_99 rfl rfl rfl ?_
  refine e_callF (av := [jI _]) 103 (i := 20) (by decide) mt_yJ_charAt mv_yJ_charAt wd_1410 (by decide) dX12_keyAt_100 rfl rfl rfl (Nat.le_of_ble_eq_true rfl) (jroom (by decide)) rfl (c_charAt (i := 20) (k := 10) (z := 32) (by decide) (by decide) (by decide +kernel) ?_)
  dsimp only [jpush]
  refine e_bipush 105 dX12_keyAt_103 (by decide) rfl ?_
  refine e_icmp_eq 108 114 dX12_keyAt_105 (by decide) (by decide) (by decide) rfl (fun _ => ?_) (fun h => absurd h (by decide))
  refine e_iinc (lsn := [(2, _), (0, _), (1, _)]) 117 dX12_keyAt_114 rfl (by decide) rfl rfl ?_
  refine e_iinc (lsn := [(1, _), (2, _), (0, _)]) 120 dX12_keyAt_117 rfl (by decide) rfl rfl ?_
  refine e_goto 4 dX12_keyAt_120 (by decide) ?_
  refine e_ls (ls2 := [(0, _), (1, _), (2, _)]) rfl ?_
  exact h

theorem kk_1 {X : jX} {M : jM} {n : Int} {Q : Int → jM → Prop} (hT : RT M n) {s : PS} (hp : 0 ≤ s.1) (hb : s.1 ≤ s.2.1 ∧ s.2.1 ≤ n) (h : Q (kx1 (M 931) s.1 s.2.1) (put M s)) : jE X yX12_keyAt cX12_keyAt 4 (some .int) 5 Q (put M s) 4 [(0, jR 928), (1, jI 1), (2, jI 6)] [] := by
  have hn8 := hT.1
  have hn := hT.2.1
  refine e_iload_n (i := 2) 5 dX12_keyAt_4 rfl rfl rfl ?_
  refine e_ldcS 7 (i := 20) (by decide) rfl rfl dX12_keyAt_5 rfl ?_
  refine e_callF (av := []) 10 (i := 20) (by decide) mt_yJ_len mv_yJ_len wd_1409 (by decide) dX12_keyAt_7 rfl rfl rfl (Nat.le_of_ble_eq_true rfl) (jroom (by decide)) rfl (c_strlen (i := 20) (z := 99) (by decide) (by decide) ?_)
  dsimp only [jpush]
  (try simp (disch := omega) only [put_r6, put_w6, put_r7, put_w7, put_r9, put_w9, put_r10, put_w10, put_r11, put_w11, put_r12, put_w12, put_r13, put_w13, put_r14, put_w14, put_r15, put_w15, put_ra, put_r8, put_r0, put_rt, put_wa, u1, u2, hn8])
  refine e_icmp_ge 13 123 dX12_keyAt_10 (by decide) (by decide) (by decide) rfl (fun h => absurd h (by decide)) (fun _ => ?_)
  refine e_iconst 14 dX12_keyAt_13 rfl ?_
  refine e_istore_n (i := 3) (lsn := [(3, _), (0, _), (1, _), (2, _)]) 15 dX12_keyAt_14 rfl (by decide) rfl rfl ?_
  refine e_ldcS 17 (i := 20) (by decide) rfl rfl dX12_keyAt_15 rfl ?_
  refine e_iload_n (i := 2) 18 dX12_keyAt_17 rfl rfl rfl ?_
  refine e_iload_n (i := 3) 19 dX12_keyAt_18 rfl rfl rfl ?_
  refine e_iadd 20 dX12_keyAt_19 rfl ?_
  refine e_callF (av := [jI _]) 23 (i := 20) (by decide) mt_yJ_charAt mv_yJ_charAt wd_1410 (by decide) dX12_keyAt_20 rfl rfl rfl (Nat.le_of_ble_eq_true rfl) (jroom (by decide)) rfl (c_charAt (i := 20) (k := 6) (z := 116) (by decide) (by decide) (by decide +kernel) ?_)
  dsimp only [jpush]
  (try simp (disch := omega) only [put_r6, put_w6, put_r7, put_w7, put_r9, put_w9, put_r10, put_w10, put_r11, put_w11, put_r12, put_w12, put_r13, put_w13, put_r14, put_w14, put_r15, put_w15, put_ra, put_r8, put_r0, put_rt, put_wa, u1, u2, hn8])
  refine e_bipush 25 dX12_keyAt_23 (by decide) rfl ?_
  refine e_icmp_eq 28 69 dX12_keyAt_25 (by decide) (by decide) (by decide) rfl (fun h => absurd h (by decide)) (fun _ => ?_)
  refine e_aload_n (i := 0) 29 dX12_keyAt_28 rfl rfl rfl ?_
  refine e_geti (j := 6) 32 fl_12_97 dX12_keyAt_29 at_928 (by decide) rfl rfl (fun r29 => ?_)
  simp (disch := omega) only [put_r6, put_w6, put_r7, put_w7, put_r9, put_w9, put_r10, put_w10, put_r11, put_w11, put_r12, put_w12, put_r13, put_w13, put_r14, put_w14, put_r15, put_w15, put_ra, put_r8, put_r0, put_rt, put_wa, u1, u2, hn8] at r29 ⊢
  refine e_iload_n (i := 3) 33 dX12_keyAt_32 rfl rfl rfl ?_
  refine e_iadd 34 dX12_keyAt_33 rfl ?_
  refine e_aload_n (i := 0) 35 dX12_keyAt_34 rfl rfl rfl ?_
  refine e_geti (j := 7) 38 fl_12_100 dX12_keyAt_35 at_928 (by decide) rfl rfl (fun r35 => ?_)
  simp (disch := omega) only [put_r6, put_w6, put_r7, put_w7, put_r9, put_w9, put_r10, put_w10, put_r11, put_w11, put_r12, put_w12, put_r13, put_w13, put_r14, put_w14, put_r15, put_w15, put_ra, put_r8, put_r0, put_rt, put_wa, u1, u2, hn8] at r35 ⊢
  refine e_icmp_ge 41 69 dX12_keyAt_38 (by omega) (by omega) (by decide) rfl (fun b38 => ?_) (fun b38 => ?_)
  · skip
    refine e_ldcS 71 (i := 20) (by decide) rfl rfl dX12_keyAt_69 rfl ?_
    refine e_iload_n (i := 2) 72 dX12_keyAt_71 rfl rfl rfl ?_
    refine e_iload_n (i := 3) 73 dX12_keyAt_72 rfl rfl rfl ?_
    refine e_iadd 74 dX12_keyAt_73 rfl ?_
    refine e_callF (av := [jI _]) 77 (i := 20) (by decide) mt_yJ_charAt mv_yJ_charAt wd_1410 (by decide) dX12_keyAt_74 rfl rfl rfl (Nat.le_of_ble_eq_true rfl) (jroom (by decide)) rfl (c_charAt (i := 20) (k := 6) (z := 116) (by decide) (by decide) (by decide +kernel) ?_)
    dsimp only [jpush]
    (try simp (disch := omega) only [put_r6, put_w6, put_r7, put_w7, put_r9, put_w9, put_r10, put_w10, put_r11, put_w11, put_r12, put_w12, put_r13, put_w13, put_r14, put_w14, put_r15, put_w15, put_ra, put_r8, put_r0, put_rt, put_wa, u1, u2, hn8])
    refine e_bipush 79 dX12_keyAt_77 (by decide) rfl ?_
    refine e_icmp_ne 82 97 dX12_keyAt_79 (by decide) (by decide) (by decide) rfl (fun _ => ?_) (fun h => absurd h (by decide))
    refine e_ls (ls2 := [(0, _), (1, _), (2, _)]) rfl ?_
    refine sk_1 (kk_2 hT hp hb ?_)
    rw [kx1, if_neg (fun q => by omega)] at h
    exact h
  · skip
    refine e_aload_n (i := 0) 42 dX12_keyAt_41 rfl rfl rfl ?_
    refine e_getr (j := 3) 45 fl_12_21 dX12_keyAt_42 at_928 rfl rfl tp_928_3 rfl ?_
    refine e_aload_n (i := 0) 46 dX12_keyAt_45 rfl rfl rfl ?_
    refine e_geti (j := 6) 49 fl_12_97 dX12_keyAt_46 at_928 (by decide) rfl rfl (fun r46 => ?_)
    simp (disch := omega) only [put_r6, put_w6, put_r7, put_w7, put_r9, put_w9, put_r10, put_w10, put_r11, put_w11, put_r12, put_w12, put_r13, put_w13, put_r14, put_w14, put_r15, put_w15, put_ra, put_r8, put_r0, put_rt, put_wa, u1, u2, hn8] at r46 ⊢
    refine e_iload_n (i := 3) 50 dX12_keyAt_49 rfl rfl rfl ?_
    refine e_iadd 51 dX12_keyAt_50 rfl ?_
    refine e_iald 52 dX12_keyAt_51 ar_931 (by omega) (by omega) rfl (fun r51 => ?_)
    simp (disch := omega) only [put_r6, put_w6, put_r7, put_w7, put_r9, put_w9, put_r10, put_w10, put_r11, put_w11, put_r12, put_w12, put_r13, put_w13, put_r14, put_w14, put_r15, put_w15, put_ra, put_r8, put_r0, put_rt, put_wa, u1, u2, hn8, Int.reduceAdd, Int.add_zero] at r51 ⊢
    refine e_ldcS 54 (i := 20) (by decide) rfl rfl dX12_keyAt_52 rfl ?_
    refine e_iload_n (i := 2) 55 dX12_keyAt_54 rfl rfl rfl ?_
    refine e_iload_n (i := 3) 56 dX12_keyAt_55 rfl rfl rfl ?_
    refine e_iadd 57 dX12_keyAt_56 rfl ?_
    refine e_callF (av := [jI _]) 60 (i := 20) (by decide) mt_yJ_charAt mv_yJ_charAt wd_1410 (by decide) dX12_keyAt_57 rfl rfl rfl (Nat.le_of_ble_eq_true rfl) (jroom (by decide)) rfl (c_charAt (i := 20) (k := 6) (z := 116) (by decide) (by decide) (by decide +kernel) ?_)
    dsimp only [jpush]
    (try simp (disch := omega) only [put_r6, put_w6, put_r7, put_w7, put_r9, put_w9, put_r10, put_w10, put_r11, put_w11, put_r12, put_w12, put_r13, put_w13, put_r14, put_w14, put_r15, put_w15, put_ra, put_r8, put_r0, put_rt, put_wa, u1, u2, hn8])
    refine e_icmp_ne 63 69 dX12_keyAt_60 (by omega) (by decide) (by decide) rfl (fun b60 => ?_) (fun b60 => ?_)
    · skip
      refine e_ldcS 71 (i := 20) (by decide) rfl rfl dX12_keyAt_69 rfl ?_
      refine e_iload_n (i := 2) 72 dX12_keyAt_71 rfl rfl rfl ?_
      refine e_iload_n (i := 3) 73 dX12_keyAt_72 rfl rfl rfl ?_
      refine e_iadd 74 dX12_keyAt_73 rfl ?_
      refine e_callF (av := [jI _]) 77 (i := 20) (by decide) mt_yJ_charAt mv_yJ_charAt wd_1410 (by decide) dX12_keyAt_74 rfl rfl rfl (Nat.le_of_ble_eq_true rfl) (jroom (by decide)) rfl (c_charAt (i := 20) (k := 6) (z := 116) (by decide) (by decide) (by decide +kernel) ?_)
      dsimp only [jpush]
      (try simp (disch := omega) only [put_r6, put_w6, put_r7, put_w7, put_r9, put_w9, put_r10, put_w10, put_r11, put_w11, put_r12, put_w12, put_r13, put_w13, put_r14, put_w14, put_r15, put_w15, put_ra, put_r8, put_r0, put_rt, put_wa, u1, u2, hn8])
      refine e_bipush 79 dX12_keyAt_77 (by decide) rfl ?_
      refine e_icmp_ne 82 97 dX12_keyAt_79 (by decide) (by decide) (by decide) rfl (fun _ => ?_) (fun h => absurd h (by decide))
      refine e_ls (ls2 := [(0, _), (1, _), (2, _)]) rfl ?_
      refine sk_1 (kk_2 hT hp hb ?_)
      rw [kx1, if_neg (fun q => by omega)] at h
      exact h
    · skip
      refine e_iinc (lsn := [(3, _), (0, _), (1, _), (2, _)]) 66 dX12_keyAt_63 rfl (by decide) rfl rfl ?_
      refine e_goto 15 dX12_keyAt_66 (by decide) ?_
      refine e_ldcS 17 (i := 20) (by decide) rfl rfl dX12_keyAt_15 rfl ?_
      refine e_iload_n (i := 2) 18 dX12_keyAt_17 rfl rfl rfl ?_
      refine e_iload_n (i := 3) 19 dX12_keyAt_18 rfl rfl rfl ?_
      refine e_iadd 20 dX12_keyAt_19 rfl ?_
      refine e_callF (av := [jI _]) 23 (i := 20) (by decide) mt_yJ_charAt mv_yJ_charAt wd_1410 (by decide) dX12_keyAt_20 rfl rfl rfl (Nat.le_of_ble_eq_true rfl) (jroom (by decide)) rfl (c_charAt (i := 20) (k := 7) (z := 97) (by decide) (by decide) (by decide +kernel) ?_)
      dsimp only [jpush]
      (try simp (disch := omega) only [put_r6, put_w6, put_r7, put_w7, put_r9, put_w9, put_r10, put_w10, put_r11, put_w11, put_r12, put_w12, put_r13, put_w13, put_r14, put_w14, put_r15, put_w15, put_ra, put_r8, put_r0, put_rt, put_wa, u1, u2, hn8])
      refine e_bipush 25 dX12_keyAt_23 (by decide) rfl ?_
      refine e_icmp_eq 28 69 dX12_keyAt_25 (by decide) (by decide) (by decide) rfl (fun h => absurd h (by decide)) (fun _ => ?_)
      refine e_aload_n (i := 0) 29 dX12_keyAt_28 rfl rfl rfl ?_
      refine e_geti (j := 6) 32 fl_12_97 dX12_keyAt_29 at_928 (by decide) rfl rfl (fun r29 => ?_)
      simp (disch := omega) only [put_r6, put_w6, put_r7, put_w7, put_r9, put_w9, put_r10, put_w10, put_r11, put_w11, put_r12, put_w12, put_r13, put_w13, put_r14, put_w14, put_r15, put_w15, put_ra, put_r8, put_r0, put_rt, put_wa, u1, u2, hn8] at r29 ⊢
      refine e_iload_n (i := 3) 33 dX12_keyAt_32 rfl rfl rfl ?_
      refine e_iadd 34 dX12_keyAt_33 rfl ?_
      refine e_aload_n (i := 0) 35 dX12_keyAt_34 rfl rfl rfl ?_
      refine e_geti (j := 7) 38 fl_12_100 dX12_keyAt_35 at_928 (by decide) rfl rfl (fun r35 => ?_)
      simp (disch := omega) only [put_r6, put_w6, put_r7, put_w7, put_r9, put_w9, put_r10, put_w10, put_r11, put_w11, put_r12, put_w12, put_r13, put_w13, put_r14, put_w14, put_r15, put_w15, put_ra, put_r8, put_r0, put_rt, put_wa, u1, u2, hn8] at r35 ⊢
      refine e_icmp_ge 41 69 dX12_keyAt_38 (by omega) (by omega) (by decide) rfl (fun b38 => ?_) (fun b38 => ?_)
      · skip
        refine e_ldcS 71 (i := 20) (by decide) rfl rfl dX12_keyAt_69 rfl ?_
        refine e_iload_n (i := 2) 72 dX12_keyAt_71 rfl rfl rfl ?_
        refine e_iload_n (i := 3) 73 dX12_keyAt_72 rfl rfl rfl ?_
        refine e_iadd 74 dX12_keyAt_73 rfl ?_
        refine e_callF (av := [jI _]) 77 (i := 20) (by decide) mt_yJ_charAt mv_yJ_charAt wd_1410 (by decide) dX12_keyAt_74 rfl rfl rfl (Nat.le_of_ble_eq_true rfl) (jroom (by decide)) rfl (c_charAt (i := 20) (k := 7) (z := 97) (by decide) (by decide) (by decide +kernel) ?_)
        dsimp only [jpush]
        (try simp (disch := omega) only [put_r6, put_w6, put_r7, put_w7, put_r9, put_w9, put_r10, put_w10, put_r11, put_w11, put_r12, put_w12, put_r13, put_w13, put_r14, put_w14, put_r15, put_w15, put_ra, put_r8, put_r0, put_rt, put_wa, u1, u2, hn8])
        refine e_bipush 79 dX12_keyAt_77 (by decide) rfl ?_
        refine e_icmp_ne 82 97 dX12_keyAt_79 (by decide) (by decide) (by decide) rfl (fun _ => ?_) (fun h => absurd h (by decide))
        refine e_ls (ls2 := [(0, _), (1, _), (2, _)]) rfl ?_
        refine sk_1 (kk_2 hT hp hb ?_)
        rw [kx1, if_neg (fun q => by omega)] at h
        exact h
      · skip
        refine e_aload_n (i := 0) 42 dX12_keyAt_41 rfl rfl rfl ?_
        refine e_getr (j := 3) 45 fl_12_21 dX12_keyAt_42 at_928 rfl rfl tp_928_3 rfl ?_
        refine e_aload_n (i := 0) 46 dX12_keyAt_45 rfl rfl rfl ?_
        refine e_geti (j := 6) 49 fl_12_97 dX12_keyAt_46 at_928 (by decide) rfl rfl (fun r46 => ?_)
        simp (disch := omega) only [put_r6, put_w6, put_r7, put_w7, put_r9, put_w9, put_r10, put_w10, put_r11, put_w11, put_r12, put_w12, put_r13, put_w13, put_r14, put_w14, put_r15, put_w15, put_ra, put_r8, put_r0, put_rt, put_wa, u1, u2, hn8] at r46 ⊢
        refine e_iload_n (i := 3) 50 dX12_keyAt_49 rfl rfl rfl ?_
        refine e_iadd 51 dX12_keyAt_50 rfl ?_
        refine e_iald 52 dX12_keyAt_51 ar_931 (by omega) (by omega) rfl (fun r51 => ?_)
        simp (disch := omega) only [put_r6, put_w6, put_r7, put_w7, put_r9, put_w9, put_r10, put_w10, put_r11, put_w11, put_r12, put_w12, put_r13, put_w13, put_r14, put_w14, put_r15, put_w15, put_ra, put_r8, put_r0, put_rt, put_wa, u1, u2, hn8, Int.reduceAdd, Int.add_zero] at r51 ⊢
        refine e_ldcS 54 (i := 20) (by decide) rfl rfl dX12_keyAt_52 rfl ?_
        refine e_iload_n (i := 2) 55 dX12_keyAt_54 rfl rfl rfl ?_
        refine e_iload_n (i := 3) 56 dX12_keyAt_55 rfl rfl rfl ?_
        refine e_iadd 57 dX12_keyAt_56 rfl ?_
        refine e_callF (av := [jI _]) 60 (i := 20) (by decide) mt_yJ_charAt mv_yJ_charAt wd_1410 (by decide) dX12_keyAt_57 rfl rfl rfl (Nat.le_of_ble_eq_true rfl) (jroom (by decide)) rfl (c_charAt (i := 20) (k := 7) (z := 97) (by decide) (by decide) (by decide +kernel) ?_)
        dsimp only [jpush]
        (try simp (disch := omega) only [put_r6, put_w6, put_r7, put_w7, put_r9, put_w9, put_r10, put_w10, put_r11, put_w11, put_r12, put_w12, put_r13, put_w13, put_r14, put_w14, put_r15, put_w15, put_ra, put_r8, put_r0, put_rt, put_wa, u1, u2, hn8])
        refine e_icmp_ne 63 69 dX12_keyAt_60 (by omega) (by decide) (by decide) rfl (fun b60 => ?_) (fun b60 => ?_)
        · skip
          refine e_ldcS 71 (i := 20) (by decide) rfl rfl dX12_keyAt_69 rfl ?_
          refine e_iload_n (i := 2) 72 dX12_keyAt_71 rfl rfl rfl ?_
          refine e_iload_n (i := 3) 73 dX12_keyAt_72 rfl rfl rfl ?_
          refine e_iadd 74 dX12_keyAt_73 rfl ?_
          refine e_callF (av := [jI _]) 77 (i := 20) (by decide) mt_yJ_charAt mv_yJ_charAt wd_1410 (by decide) dX12_keyAt_74 rfl rfl rfl (Nat.le_of_ble_eq_true rfl) (jroom (by decide)) rfl (c_charAt (i := 20) (k := 7) (z := 97) (by decide) (by decide) (by decide +kernel) ?_)
          dsimp only [jpush]
          (try simp (disch := omega) only [put_r6, put_w6, put_r7, put_w7, put_r9, put_w9, put_r10, put_w10, put_r11, put_w11, put_r12, put_w12, put_r13, put_w13, put_r14, put_w14, put_r15, put_w15, put_ra, put_r8, put_r0, put_rt, put_wa, u1, u2, hn8])
          refine e_bipush 79 dX12_keyAt_77 (by decide) rfl ?_
          refine e_icmp_ne 82 97 dX12_keyAt_79 (by decide) (by decide) (by decide) rfl (fun _ => ?_) (fun h => absurd h (by decide))
          refine e_ls (ls2 := [(0, _), (1, _), (2, _)]) rfl ?_
          refine sk_1 (kk_2 hT hp hb ?_)
          rw [kx1, if_neg (fun q => by omega)] at h
          exact h
        · skip
          refine e_iinc (lsn := [(3, _), (0, _), (1, _), (2, _)]) 66 dX12_keyAt_63 rfl (by decide) rfl rfl ?_
          refine e_goto 15 dX12_keyAt_66 (by decide) ?_
          refine e_ldcS 17 (i := 20) (by decide) rfl rfl dX12_keyAt_15 rfl ?_
          refine e_iload_n (i := 2) 18 dX12_keyAt_17 rfl rfl rfl ?_
          refine e_iload_n (i := 3) 19 dX12_keyAt_18 rfl rfl rfl ?_
          refine e_iadd 20 dX12_keyAt_19 rfl ?_
          refine e_callF (av := [jI _]) 23 (i := 20) (by decide) mt_yJ_charAt mv_yJ_charAt wd_1410 (by decide) dX12_keyAt_20 rfl rfl rfl (Nat.le_of_ble_eq_true rfl) (jroom (by decide)) rfl (c_charAt (i := 20) (k := 8) (z := 107) (by decide) (by decide) (by decide +kernel) ?_)
          dsimp only [jpush]
          (try simp (disch := omega) only [put_r6, put_w6, put_r7, put_w7, put_r9, put_w9, put_r10, put_w10, put_r11, put_w11, put_r12, put_w12, put_r13, put_w13, put_r14, put_w14, put_r15, put_w15, put_ra, put_r8, put_r0, put_rt, put_wa, u1, u2, hn8])
          refine e_bipush 25 dX12_keyAt_23 (by decide) rfl ?_
          refine e_icmp_eq 28 69 dX12_keyAt_25 (by decide) (by decide) (by decide) rfl (fun h => absurd h (by decide)) (fun _ => ?_)
          refine e_aload_n (i := 0) 29 dX12_keyAt_28 rfl rfl rfl ?_
          refine e_geti (j := 6) 32 fl_12_97 dX12_keyAt_29 at_928 (by decide) rfl rfl (fun r29 => ?_)
          simp (disch := omega) only [put_r6, put_w6, put_r7, put_w7, put_r9, put_w9, put_r10, put_w10, put_r11, put_w11, put_r12, put_w12, put_r13, put_w13, put_r14, put_w14, put_r15, put_w15, put_ra, put_r8, put_r0, put_rt, put_wa, u1, u2, hn8] at r29 ⊢
          refine e_iload_n (i := 3) 33 dX12_keyAt_32 rfl rfl rfl ?_
          refine e_iadd 34 dX12_keyAt_33 rfl ?_
          refine e_aload_n (i := 0) 35 dX12_keyAt_34 rfl rfl rfl ?_
          refine e_geti (j := 7) 38 fl_12_100 dX12_keyAt_35 at_928 (by decide) rfl rfl (fun r35 => ?_)
          simp (disch := omega) only [put_r6, put_w6, put_r7, put_w7, put_r9, put_w9, put_r10, put_w10, put_r11, put_w11, put_r12, put_w12, put_r13, put_w13, put_r14, put_w14, put_r15, put_w15, put_ra, put_r8, put_r0, put_rt, put_wa, u1, u2, hn8] at r35 ⊢
          refine e_icmp_ge 41 69 dX12_keyAt_38 (by omega) (by omega) (by decide) rfl (fun b38 => ?_) (fun b38 => ?_)
          · skip
            refine e_ldcS 71 (i := 20) (by decide) rfl rfl dX12_keyAt_69 rfl ?_
            refine e_iload_n (i := 2) 72 dX12_keyAt_71 rfl rfl rfl ?_
            refine e_iload_n (i := 3) 73 dX12_keyAt_72 rfl rfl rfl ?_
            refine e_iadd 74 dX12_keyAt_73 rfl ?_
            refine e_callF (av := [jI _]) 77 (i := 20) (by decide) mt_yJ_charAt mv_yJ_charAt wd_1410 (by decide) dX12_keyAt_74 rfl rfl rfl (Nat.le_of_ble_eq_true rfl) (jroom (by decide)) rfl (c_charAt (i := 20) (k := 8) (z := 107) (by decide) (by decide) (by decide +kernel) ?_)
            dsimp only [jpush]
            (try simp (disch := omega) only [put_r6, put_w6, put_r7, put_w7, put_r9, put_w9, put_r10, put_w10, put_r11, put_w11, put_r12, put_w12, put_r13, put_w13, put_r14, put_w14, put_r15, put_w15, put_ra, put_r8, put_r0, put_rt, put_wa, u1, u2, hn8])
            refine e_bipush 79 dX12_keyAt_77 (by decide) rfl ?_
            refine e_icmp_ne 82 97 dX12_keyAt_79 (by decide) (by decide) (by decide) rfl (fun _ => ?_) (fun h => absurd h (by decide))
            refine e_ls (ls2 := [(0, _), (1, _), (2, _)]) rfl ?_
            refine sk_1 (kk_2 hT hp hb ?_)
            rw [kx1, if_neg (fun q => by omega)] at h
            exact h
          · skip
            refine e_aload_n (i := 0) 42 dX12_keyAt_41 rfl rfl rfl ?_
            refine e_getr (j := 3) 45 fl_12_21 dX12_keyAt_42 at_928 rfl rfl tp_928_3 rfl ?_
            refine e_aload_n (i := 0) 46 dX12_keyAt_45 rfl rfl rfl ?_
            refine e_geti (j := 6) 49 fl_12_97 dX12_keyAt_46 at_928 (by decide) rfl rfl (fun r46 => ?_)
            simp (disch := omega) only [put_r6, put_w6, put_r7, put_w7, put_r9, put_w9, put_r10, put_w10, put_r11, put_w11, put_r12, put_w12, put_r13, put_w13, put_r14, put_w14, put_r15, put_w15, put_ra, put_r8, put_r0, put_rt, put_wa, u1, u2, hn8] at r46 ⊢
            refine e_iload_n (i := 3) 50 dX12_keyAt_49 rfl rfl rfl ?_
            refine e_iadd 51 dX12_keyAt_50 rfl ?_
            refine e_iald 52 dX12_keyAt_51 ar_931 (by omega) (by omega) rfl (fun r51 => ?_)
            simp (disch := omega) only [put_r6, put_w6, put_r7, put_w7, put_r9, put_w9, put_r10, put_w10, put_r11, put_w11, put_r12, put_w12, put_r13, put_w13, put_r14, put_w14, put_r15, put_w15, put_ra, put_r8, put_r0, put_rt, put_wa, u1, u2, hn8, Int.reduceAdd, Int.add_zero] at r51 ⊢
            refine e_ldcS 54 (i := 20) (by decide) rfl rfl dX12_keyAt_52 rfl ?_
            refine e_iload_n (i := 2) 55 dX12_keyAt_54 rfl rfl rfl ?_
            refine e_iload_n (i := 3) 56 dX12_keyAt_55 rfl rfl rfl ?_
            refine e_iadd 57 dX12_keyAt_56 rfl ?_
            refine e_callF (av := [jI _]) 60 (i := 20) (by decide) mt_yJ_charAt mv_yJ_charAt wd_1410 (by decide) dX12_keyAt_57 rfl rfl rfl (Nat.le_of_ble_eq_true rfl) (jroom (by decide)) rfl (c_charAt (i := 20) (k := 8) (z := 107) (by decide) (by decide) (by decide +kernel) ?_)
            dsimp only [jpush]
            (try simp (disch := omega) only [put_r6, put_w6, put_r7, put_w7, put_r9, put_w9, put_r10, put_w10, put_r11, put_w11, put_r12, put_w12, put_r13, put_w13, put_r14, put_w14, put_r15, put_w15, put_ra, put_r8, put_r0, put_rt, put_wa, u1, u2, hn8])
            refine e_icmp_ne 63 69 dX12_keyAt_60 (by omega) (by decide) (by decide) rfl (fun b60 => ?_) (fun b60 => ?_)
            · skip
              refine e_ldcS 71 (i := 20) (by decide) rfl rfl dX12_keyAt_69 rfl ?_
              refine e_iload_n (i := 2) 72 dX12_keyAt_71 rfl rfl rfl ?_
              refine e_iload_n (i := 3) 73 dX12_keyAt_72 rfl rfl rfl ?_
              refine e_iadd 74 dX12_keyAt_73 rfl ?_
              refine e_callF (av := [jI _]) 77 (i := 20) (by decide) mt_yJ_charAt mv_yJ_charAt wd_1410 (by decide) dX12_keyAt_74 rfl rfl rfl (Nat.le_of_ble_eq_true rfl) (jroom (by decide)) rfl (c_charAt (i := 20) (k := 8) (z := 107) (by decide) (by decide) (by decide +kernel) ?_)
              dsimp only [jpush]
              (try simp (disch := omega) only [put_r6, put_w6, put_r7, put_w7, put_r9, put_w9, put_r10, put_w10, put_r11, put_w11, put_r12, put_w12, put_r13, put_w13, put_r14, put_w14, put_r15, put_w15, put_ra, put_r8, put_r0, put_rt, put_wa, u1, u2, hn8])
              refine e_bipush 79 dX12_keyAt_77 (by decide) rfl ?_
              refine e_icmp_ne 82 97 dX12_keyAt_79 (by decide) (by decide) (by decide) rfl (fun _ => ?_) (fun h => absurd h (by decide))
              refine e_ls (ls2 := [(0, _), (1, _), (2, _)]) rfl ?_
              refine sk_1 (kk_2 hT hp hb ?_)
              rw [kx1, if_neg (fun q => by omega)] at h
              exact h
            · skip
              refine e_iinc (lsn := [(3, _), (0, _), (1, _), (2, _)]) 66 dX12_keyAt_63 rfl (by decide) rfl rfl ?_
              refine e_goto 15 dX12_keyAt_66 (by decide) ?_
              refine e_ldcS 17 (i := 20) (by decide) rfl rfl dX12_keyAt_15 rfl ?_
              refine e_iload_n (i := 2) 18 dX12_keyAt_17 rfl rfl rfl ?_
              refine e_iload_n (i := 3) 19 dX12_keyAt_18 rfl rfl rfl ?_
              refine e_iadd 20 dX12_keyAt_19 rfl ?_
              refine e_callF (av := [jI _]) 23 (i := 20) (by decide) mt_yJ_charAt mv_yJ_charAt wd_1410 (by decide) dX12_keyAt_20 rfl rfl rfl (Nat.le_of_ble_eq_true rfl) (jroom (by decide)) rfl (c_charAt (i := 20) (k := 9) (z := 101) (by decide) (by decide) (by decide +kernel) ?_)
              dsimp only [jpush]
              (try simp (disch := omega) only [put_r6, put_w6, put_r7, put_w7, put_r9, put_w9, put_r10, put_w10, put_r11, put_w11, put_r12, put_w12, put_r13, put_w13, put_r14, put_w14, put_r15, put_w15, put_ra, put_r8, put_r0, put_rt, put_wa, u1, u2, hn8])
              refine e_bipush 25 dX12_keyAt_23 (by decide) rfl ?_
              refine e_icmp_eq 28 69 dX12_keyAt_25 (by decide) (by decide) (by decide) rfl (fun h => absurd h (by decide)) (fun _ => ?_)
              refine e_aload_n (i := 0) 29 dX12_keyAt_28 rfl rfl rfl ?_
              refine e_geti (j := 6) 32 fl_12_97 dX12_keyAt_29 at_928 (by decide) rfl rfl (fun r29 => ?_)
              simp (disch := omega) only [put_r6, put_w6, put_r7, put_w7, put_r9, put_w9, put_r10, put_w10, put_r11, put_w11, put_r12, put_w12, put_r13, put_w13, put_r14, put_w14, put_r15, put_w15, put_ra, put_r8, put_r0, put_rt, put_wa, u1, u2, hn8] at r29 ⊢
              refine e_iload_n (i := 3) 33 dX12_keyAt_32 rfl rfl rfl ?_
              refine e_iadd 34 dX12_keyAt_33 rfl ?_
              refine e_aload_n (i := 0) 35 dX12_keyAt_34 rfl rfl rfl ?_
              refine e_geti (j := 7) 38 fl_12_100 dX12_keyAt_35 at_928 (by decide) rfl rfl (fun r35 => ?_)
              simp (disch := omega) only [put_r6, put_w6, put_r7, put_w7, put_r9, put_w9, put_r10, put_w10, put_r11, put_w11, put_r12, put_w12, put_r13, put_w13, put_r14, put_w14, put_r15, put_w15, put_ra, put_r8, put_r0, put_rt, put_wa, u1, u2, hn8] at r35 ⊢
              refine e_icmp_ge 41 69 dX12_keyAt_38 (by omega) (by omega) (by decide) rfl (fun b38 => ?_) (fun b38 => ?_)
              · skip
                refine e_ldcS 71 (i := 20) (by decide) rfl rfl dX12_keyAt_69 rfl ?_
                refine e_iload_n (i := 2) 72 dX12_keyAt_71 rfl rfl rfl ?_
                refine e_iload_n (i := 3) 73 dX12_keyAt_72 rfl rfl rfl ?_
                refine e_iadd 74 dX12_keyAt_73 rfl ?_
                refine e_callF (av := [jI _]) 77 (i := 20) (by decide) mt_yJ_charAt mv_yJ_charAt wd_1410 (by decide) dX12_keyAt_74 rfl rfl rfl (Nat.le_of_ble_eq_true rfl) (jroom (by decide)) rfl (c_charAt (i := 20) (k := 9) (z := 101) (by decide) (by decide) (by decide +kernel) ?_)
                dsimp only [jpush]
                (try simp (disch := omega) only [put_r6, put_w6, put_r7, put_w7, put_r9, put_w9, put_r10, put_w10, put_r11, put_w11, put_r12, put_w12, put_r13, put_w13, put_r14, put_w14, put_r15, put_w15, put_ra, put_r8, put_r0, put_rt, put_wa, u1, u2, hn8])
                refine e_bipush 79 dX12_keyAt_77 (by decide) rfl ?_
                refine e_icmp_ne 82 97 dX12_keyAt_79 (by decide) (by decide) (by decide) rfl (fun _ => ?_) (fun h => absurd h (by decide))
                refine e_ls (ls2 := [(0, _), (1, _), (2, _)]) rfl ?_
                refine sk_1 (kk_2 hT hp hb ?_)
                rw [kx1, if_neg (fun q => by omega)] at h
                exact h
              · skip
                refine e_aload_n (i := 0) 42 dX12_keyAt_41 rfl rfl rfl ?_
                refine e_getr (j := 3) 45 fl_12_21 dX12_keyAt_42 at_928 rfl rfl tp_928_3 rfl ?_
                refine e_aload_n (i := 0) 46 dX12_keyAt_45 rfl rfl rfl ?_
                refine e_geti (j := 6) 49 fl_12_97 dX12_keyAt_46 at_928 (by decide) rfl rfl (fun r46 => ?_)
                simp (disch := omega) only [put_r6, put_w6, put_r7, put_w7, put_r9, put_w9, put_r10, put_w10, put_r11, put_w11, put_r12, put_w12, put_r13, put_w13, put_r14, put_w14, put_r15, put_w15, put_ra, put_r8, put_r0, put_rt, put_wa, u1, u2, hn8] at r46 ⊢
                refine e_iload_n (i := 3) 50 dX12_keyAt_49 rfl rfl rfl ?_
                refine e_iadd 51 dX12_keyAt_50 rfl ?_
                refine e_iald 52 dX12_keyAt_51 ar_931 (by omega) (by omega) rfl (fun r51 => ?_)
                simp (disch := omega) only [put_r6, put_w6, put_r7, put_w7, put_r9, put_w9, put_r10, put_w10, put_r11, put_w11, put_r12, put_w12, put_r13, put_w13, put_r14, put_w14, put_r15, put_w15, put_ra, put_r8, put_r0, put_rt, put_wa, u1, u2, hn8, Int.reduceAdd, Int.add_zero] at r51 ⊢
                refine e_ldcS 54 (i := 20) (by decide) rfl rfl dX12_keyAt_52 rfl ?_
                refine e_iload_n (i := 2) 55 dX12_keyAt_54 rfl rfl rfl ?_
                refine e_iload_n (i := 3) 56 dX12_keyAt_55 rfl rfl rfl ?_
                refine e_iadd 57 dX12_keyAt_56 rfl ?_
                refine e_callF (av := [jI _]) 60 (i := 20) (by decide) mt_yJ_charAt mv_yJ_charAt wd_1410 (by decide) dX12_keyAt_57 rfl rfl rfl (Nat.le_of_ble_eq_true rfl) (jroom (by decide)) rfl (c_charAt (i := 20) (k := 9) (z := 101) (by decide) (by decide) (by decide +kernel) ?_)
                dsimp only [jpush]
                (try simp (disch := omega) only [put_r6, put_w6, put_r7, put_w7, put_r9, put_w9, put_r10, put_w10, put_r11, put_w11, put_r12, put_w12, put_r13, put_w13, put_r14, put_w14, put_r15, put_w15, put_ra, put_r8, put_r0, put_rt, put_wa, u1, u2, hn8])
                refine e_icmp_ne 63 69 dX12_keyAt_60 (by omega) (by decide) (by decide) rfl (fun b60 => ?_) (fun b60 => ?_)
                · skip
                  refine e_ldcS 71 (i := 20) (by decide) rfl rfl dX12_keyAt_69 rfl ?_
                  refine e_iload_n (i := 2) 72 dX12_keyAt_71 rfl rfl rfl ?_
                  refine e_iload_n (i := 3) 73 dX12_keyAt_72 rfl rfl rfl ?_
                  refine e_iadd 74 dX12_keyAt_73 rfl ?_
                  refine e_callF (av := [jI _]) 77 (i := 20) (by decide) mt_yJ_charAt mv_yJ_charAt wd_1410 (by decide) dX12_keyAt_74 rfl rfl rfl (Nat.le_of_ble_eq_true rfl) (jroom (by decide)) rfl (c_charAt (i := 20) (k := 9) (z := 101) (by decide) (by decide) (by decide +kernel) ?_)
                  dsimp only [jpush]
                  (try simp (disch := omega) only [put_r6, put_w6, put_r7, put_w7, put_r9, put_w9, put_r10, put_w10, put_r11, put_w11, put_r12, put_w12, put_r13, put_w13, put_r14, put_w14, put_r15, put_w15, put_ra, put_r8, put_r0, put_rt, put_wa, u1, u2, hn8])
                  refine e_bipush 79 dX12_keyAt_77 (by decide) rfl ?_
                  refine e_icmp_ne 82 97 dX12_keyAt_79 (by decide) (by decide) (by decide) rfl (fun _ => ?_) (fun h => absurd h (by decide))
                  refine e_ls (ls2 := [(0, _), (1, _), (2, _)]) rfl ?_
                  refine sk_1 (kk_2 hT hp hb ?_)
                  rw [kx1, if_neg (fun q => by omega)] at h
                  exact h
                · skip
                  refine e_iinc (lsn := [(3, _), (0, _), (1, _), (2, _)]) 66 dX12_keyAt_63 rfl (by decide) rfl rfl ?_
                  refine e_goto 15 dX12_keyAt_66 (by decide) ?_
                  refine e_ldcS 17 (i := 20) (by decide) rfl rfl dX12_keyAt_15 rfl ?_
                  refine e_iload_n (i := 2) 18 dX12_keyAt_17 rfl rfl rfl ?_
                  refine e_iload_n (i := 3) 19 dX12_keyAt_18 rfl rfl rfl ?_
                  refine e_iadd 20 dX12_keyAt_19 rfl ?_
                  refine e_callF (av := [jI _]) 23 (i := 20) (by decide) mt_yJ_charAt mv_yJ_charAt wd_1410 (by decide) dX12_keyAt_20 rfl rfl rfl (Nat.le_of_ble_eq_true rfl) (jroom (by decide)) rfl (c_charAt (i := 20) (k := 10) (z := 32) (by decide) (by decide) (by decide +kernel) ?_)
                  dsimp only [jpush]
                  (try simp (disch := omega) only [put_r6, put_w6, put_r7, put_w7, put_r9, put_w9, put_r10, put_w10, put_r11, put_w11, put_r12, put_w12, put_r13, put_w13, put_r14, put_w14, put_r15, put_w15, put_ra, put_r8, put_r0, put_rt, put_wa, u1, u2, hn8])
                  refine e_bipush 25 dX12_keyAt_23 (by decide) rfl ?_
                  refine e_icmp_eq 28 69 dX12_keyAt_25 (by decide) (by decide) (by decide) rfl (fun _ => ?_) (fun h => absurd h (by decide))
                  refine e_ldcS 71 (i := 20) (by decide) rfl rfl dX12_keyAt_69 rfl ?_
                  refine e_iload_n (i := 2) 72 dX12_keyAt_71 rfl rfl rfl ?_
                  refine e_iload_n (i := 3) 73 dX12_keyAt_72 rfl rfl rfl ?_
                  refine e_iadd 74 dX12_keyAt_73 rfl ?_
                  refine e_callF (av := [jI _]) 77 (i := 20) (by decide) mt_yJ_charAt mv_yJ_charAt wd_1410 (by decide) dX12_keyAt_74 rfl rfl rfl (Nat.le_of_ble_eq_true rfl) (jroom (by decide)) rfl (c_charAt (i := 20) (k := 10) (z := 32) (by decide) (by decide) (by decide +kernel) ?_)
                  dsimp only [jpush]
                  (try simp (disch := omega) only [put_r6, put_w6, put_r7, put_w7, put_r9, put_w9, put_r10, put_w10, put_r11, put_w11, put_r12, put_w12, put_r13, put_w13, put_r14, put_w14, put_r15, put_w15, put_ra, put_r8, put_r0, put_rt, put_wa, u1, u2, hn8])
                  refine e_bipush 79 dX12_keyAt_77 (by decide) rfl ?_
                  refine e_icmp_ne 82 97 dX12_keyAt_79 (by decide) (by decide) (by decide) rfl (fun h => absurd h (by decide)) (fun _ => ?_)
                  refine e_aload_n (i := 0) 83 dX12_keyAt_82 rfl rfl rfl ?_
                  refine e_geti (j := 6) 86 fl_12_97 dX12_keyAt_83 at_928 (by decide) rfl rfl (fun r83 => ?_)
                  simp (disch := omega) only [put_r6, put_w6, put_r7, put_w7, put_r9, put_w9, put_r10, put_w10, put_r11, put_w11, put_r12, put_w12, put_r13, put_w13, put_r14, put_w14, put_r15, put_w15, put_ra, put_r8, put_r0, put_rt, put_wa, u1, u2, hn8] at r83 ⊢
                  refine e_iload_n (i := 3) 87 dX12_keyAt_86 rfl rfl rfl ?_
                  refine e_iadd 88 dX12_keyAt_87 rfl ?_
                  refine e_aload_n (i := 0) 89 dX12_keyAt_88 rfl rfl rfl ?_
                  refine e_geti (j := 7) 92 fl_12_100 dX12_keyAt_89 at_928 (by decide) rfl rfl (fun r89 => ?_)
                  simp (disch := omega) only [put_r6, put_w6, put_r7, put_w7, put_r9, put_w9, put_r10, put_w10, put_r11, put_w11, put_r12, put_w12, put_r13, put_w13, put_r14, put_w14, put_r15, put_w15, put_ra, put_r8, put_r0, put_rt, put_wa, u1, u2, hn8] at r89 ⊢
                  refine e_icmp_ne 95 97 dX12_keyAt_92 (by omega) (by omega) (by decide) rfl (fun b92 => ?_) (fun b92 => ?_)
                  · skip
                    refine e_ls (ls2 := [(0, _), (1, _), (2, _)]) rfl ?_
                    refine sk_1 (kk_2 hT hp hb ?_)
                    rw [kx1, if_neg (fun q => by omega)] at h
                    exact h
                  · skip
                    refine e_iload_n (i := 1) 96 dX12_keyAt_95 rfl rfl rfl ?_
                    refine e_iret dX12_keyAt_96 ?_
                    rw [kx1, if_pos (by omega)] at h
                    exact h

theorem sk_0 {X : jX} {Y : jM} {Q : Int → jM → Prop} (h : jE X yX12_keyAt cX12_keyAt 4 (some .int) 5 Q Y 4 [(0, jR 928), (1, jI 1), (2, jI 6)] []) : jE X yX12_keyAt cX12_keyAt 4 (some .int) 5 Q Y 97 [(0, jR 928), (1, jI 0), (2, jI 1)] [] := by
  refine e_ldcS 99 (i := 20) (by decide) rfl rfl dX12_keyAt_97 rfl ?_
  refine e_iload_n (i := 2) 100 dX12_keyAt_99 rfl rfl rfl ?_
  refine e_callF (av := [jI _]) 103 (i := 20) (by decide) mt_yJ_charAt mv_yJ_charAt wd_1410 (by decide) dX12_keyAt_100 rfl rfl rfl (Nat.le_of_ble_eq_true rfl) (jroom (by decide)) rfl (c_charAt (i := 20) (k := 1) (z := 117) (by decide) (by decide) (by decide +kernel) ?_)
  dsimp only [jpush]
  refine e_bipush 105 dX12_keyAt_103 (by decide) rfl ?_
  refine e_icmp_eq 108 114 dX12_keyAt_105 (by decide) (by decide) (by decide) rfl (fun h => absurd h (by decide)) (fun _ => ?_)
  refine e_iinc (lsn := [(2, _), (0, _), (1, _)]) 111 dX12_keyAt_108 rfl (by decide) rfl rfl ?_
  refine e_goto 97 dX12_keyAt_111 (by decide) ?_
  refine e_ldcS 99 (i := 20) (by decide) rfl rfl dX12_keyAt_97 rfl ?_
  refine e_iload_n (i := 2) 100 dX12_keyAt_99 rfl rfl rfl ?_
  refine e_callF (av := [jI _]) 103 (i := 20) (by decide) mt_yJ_charAt mv_yJ_charAt wd_1410 (by decide) dX12_keyAt_100 rfl rfl rfl (Nat.le_of_ble_eq_true rfl) (jroom (by decide)) rfl (c_charAt (i := 20) (k := 2) (z := 112) (by decide) (by decide) (by decide +kernel) ?_)
  dsimp only [jpush]
  refine e_bipush 105 dX12_keyAt_103 (by decide) rfl ?_
  refine e_icmp_eq 108 114 dX12_keyAt_105 (by decide) (by decide) (by decide) rfl (fun h => absurd h (by decide)) (fun _ => ?_)
  refine e_iinc (lsn := [(2, _), (0, _), (1, _)]) 111 dX12_keyAt_108 rfl (by decide) rfl rfl ?_
  refine e_goto 97 dX12_keyAt_111 (by decide) ?_
  refine e_ldcS 99 (i := 20) (by decide) rfl rfl dX12_keyAt_97 rfl ?_
  refine e_iload_n (i := 2) 100 dX12_keyAt_99 rfl rfl rfl ?_
  refine e_callF (av := [jI _]) 103 (i := 20) (by decide) mt_yJ_charAt mv_yJ_charAt wd_1410 (by decide) dX12_keyAt_100 rfl rfl rfl (Nat.le_of_ble_eq_true rfl) (jroom (by decide)) rfl (c_charAt (i := 20) (k := 3) (z := 116) (by decide) (by decide) (by decide +kernel) ?_)
  dsimp only [jpush]
  refine e_bipush 105 dX12_keyAt_103 (by decide) rfl ?_
  refine e_icmp_eq 108 114 dX12_keyAt_105 (by decide) (by decide) (by decide) rfl (fun h => absurd h (by decide)) (fun _ => ?_)
  refine e_iinc (lsn := [(2, _), (0, _), (1, _)]) 111 dX12_keyAt_108 rfl (by decide) rfl rfl ?_
  refine e_goto 97 dX12_keyAt_111 (by decide) ?_
  refine e_ldcS 99 (i := 20) (by decide) rfl rfl dX12_keyAt_97 rfl ?_
  refine e_iload_n (i := 2) 100 dX12_keyAt_99 rfl rfl rfl ?_
  refine e_callF (av := [jI _]) 103 (i := 20) (by decide) mt_yJ_charAt mv_yJ_charAt wd_1410 (by decide) dX12_keyAt_100 rfl rfl rfl (Nat.le_of_ble_eq_true rfl) (jroom (by decide)) rfl (c_charAt (i := 20) (k := 4) (z := 111) (by decide) (by decide) (by decide +kernel) ?_)
  dsimp only [jpush]
  refine e_bipush 105 dX12_keyAt_103 (by decide) rfl ?_
  refine e_icmp_eq 108 114 dX12_keyAt_105 (by decide) (by decide) (by decide) rfl (fun h => absurd h (by decide)) (fun _ => ?_)
  refine e_iinc (lsn := [(2, _), (0, _), (1, _)]) 111 dX12_keyAt_108 rfl (by decide) rfl rfl ?_
  refine e_goto 97 dX12_keyAt_111 (by decide) ?_
  refine e_ldcS 99 (i := 20) (by decide) rfl rfl dX12_keyAt_97 rfl ?_
  refine e_iload_n (i := 2) 100 dX12_keyAt_99 rfl rfl rfl ?_
  refine e_callF (av := [jI _]) 103 (i := 20) (by decide) mt_yJ_charAt mv_yJ_charAt wd_1410 (by decide) dX12_keyAt_100 rfl rfl rfl (Nat.le_of_ble_eq_true rfl) (jroom (by decide)) rfl (c_charAt (i := 20) (k := 5) (z := 32) (by decide) (by decide) (by decide +kernel) ?_)
  dsimp only [jpush]
  refine e_bipush 105 dX12_keyAt_103 (by decide) rfl ?_
  refine e_icmp_eq 108 114 dX12_keyAt_105 (by decide) (by decide) (by decide) rfl (fun _ => ?_) (fun h => absurd h (by decide))
  refine e_iinc (lsn := [(2, _), (0, _), (1, _)]) 117 dX12_keyAt_114 rfl (by decide) rfl rfl ?_
  refine e_iinc (lsn := [(1, _), (2, _), (0, _)]) 120 dX12_keyAt_117 rfl (by decide) rfl rfl ?_
  refine e_goto 4 dX12_keyAt_120 (by decide) ?_
  refine e_ls (ls2 := [(0, _), (1, _), (2, _)]) rfl ?_
  exact h

theorem kk_0 {X : jX} {M : jM} {n : Int} {Q : Int → jM → Prop} (hT : RT M n) {s : PS} (hp : 0 ≤ s.1) (hb : s.1 ≤ s.2.1 ∧ s.2.1 ≤ n) (h : Q (kx0 (M 931) s.1 s.2.1) (put M s)) : jE X yX12_keyAt cX12_keyAt 4 (some .int) 5 Q (put M s) 4 [(0, jR 928), (1, jI 0), (2, jI 1)] [] := by
  have hn8 := hT.1
  have hn := hT.2.1
  refine e_iload_n (i := 2) 5 dX12_keyAt_4 rfl rfl rfl ?_
  refine e_ldcS 7 (i := 20) (by decide) rfl rfl dX12_keyAt_5 rfl ?_
  refine e_callF (av := []) 10 (i := 20) (by decide) mt_yJ_len mv_yJ_len wd_1409 (by decide) dX12_keyAt_7 rfl rfl rfl (Nat.le_of_ble_eq_true rfl) (jroom (by decide)) rfl (c_strlen (i := 20) (z := 99) (by decide) (by decide) ?_)
  dsimp only [jpush]
  (try simp (disch := omega) only [put_r6, put_w6, put_r7, put_w7, put_r9, put_w9, put_r10, put_w10, put_r11, put_w11, put_r12, put_w12, put_r13, put_w13, put_r14, put_w14, put_r15, put_w15, put_ra, put_r8, put_r0, put_rt, put_wa, u1, u2, hn8])
  refine e_icmp_ge 13 123 dX12_keyAt_10 (by decide) (by decide) (by decide) rfl (fun h => absurd h (by decide)) (fun _ => ?_)
  refine e_iconst 14 dX12_keyAt_13 rfl ?_
  refine e_istore_n (i := 3) (lsn := [(3, _), (0, _), (1, _), (2, _)]) 15 dX12_keyAt_14 rfl (by decide) rfl rfl ?_
  refine e_ldcS 17 (i := 20) (by decide) rfl rfl dX12_keyAt_15 rfl ?_
  refine e_iload_n (i := 2) 18 dX12_keyAt_17 rfl rfl rfl ?_
  refine e_iload_n (i := 3) 19 dX12_keyAt_18 rfl rfl rfl ?_
  refine e_iadd 20 dX12_keyAt_19 rfl ?_
  refine e_callF (av := [jI _]) 23 (i := 20) (by decide) mt_yJ_charAt mv_yJ_charAt wd_1410 (by decide) dX12_keyAt_20 rfl rfl rfl (Nat.le_of_ble_eq_true rfl) (jroom (by decide)) rfl (c_charAt (i := 20) (k := 1) (z := 117) (by decide) (by decide) (by decide +kernel) ?_)
  dsimp only [jpush]
  (try simp (disch := omega) only [put_r6, put_w6, put_r7, put_w7, put_r9, put_w9, put_r10, put_w10, put_r11, put_w11, put_r12, put_w12, put_r13, put_w13, put_r14, put_w14, put_r15, put_w15, put_ra, put_r8, put_r0, put_rt, put_wa, u1, u2, hn8])
  refine e_bipush 25 dX12_keyAt_23 (by decide) rfl ?_
  refine e_icmp_eq 28 69 dX12_keyAt_25 (by decide) (by decide) (by decide) rfl (fun h => absurd h (by decide)) (fun _ => ?_)
  refine e_aload_n (i := 0) 29 dX12_keyAt_28 rfl rfl rfl ?_
  refine e_geti (j := 6) 32 fl_12_97 dX12_keyAt_29 at_928 (by decide) rfl rfl (fun r29 => ?_)
  simp (disch := omega) only [put_r6, put_w6, put_r7, put_w7, put_r9, put_w9, put_r10, put_w10, put_r11, put_w11, put_r12, put_w12, put_r13, put_w13, put_r14, put_w14, put_r15, put_w15, put_ra, put_r8, put_r0, put_rt, put_wa, u1, u2, hn8] at r29 ⊢
  refine e_iload_n (i := 3) 33 dX12_keyAt_32 rfl rfl rfl ?_
  refine e_iadd 34 dX12_keyAt_33 rfl ?_
  refine e_aload_n (i := 0) 35 dX12_keyAt_34 rfl rfl rfl ?_
  refine e_geti (j := 7) 38 fl_12_100 dX12_keyAt_35 at_928 (by decide) rfl rfl (fun r35 => ?_)
  simp (disch := omega) only [put_r6, put_w6, put_r7, put_w7, put_r9, put_w9, put_r10, put_w10, put_r11, put_w11, put_r12, put_w12, put_r13, put_w13, put_r14, put_w14, put_r15, put_w15, put_ra, put_r8, put_r0, put_rt, put_wa, u1, u2, hn8] at r35 ⊢
  refine e_icmp_ge 41 69 dX12_keyAt_38 (by omega) (by omega) (by decide) rfl (fun b38 => ?_) (fun b38 => ?_)
  · skip
    refine e_ldcS 71 (i := 20) (by decide) rfl rfl dX12_keyAt_69 rfl ?_
    refine e_iload_n (i := 2) 72 dX12_keyAt_71 rfl rfl rfl ?_
    refine e_iload_n (i := 3) 73 dX12_keyAt_72 rfl rfl rfl ?_
    refine e_iadd 74 dX12_keyAt_73 rfl ?_
    refine e_callF (av := [jI _]) 77 (i := 20) (by decide) mt_yJ_charAt mv_yJ_charAt wd_1410 (by decide) dX12_keyAt_74 rfl rfl rfl (Nat.le_of_ble_eq_true rfl) (jroom (by decide)) rfl (c_charAt (i := 20) (k := 1) (z := 117) (by decide) (by decide) (by decide +kernel) ?_)
    dsimp only [jpush]
    (try simp (disch := omega) only [put_r6, put_w6, put_r7, put_w7, put_r9, put_w9, put_r10, put_w10, put_r11, put_w11, put_r12, put_w12, put_r13, put_w13, put_r14, put_w14, put_r15, put_w15, put_ra, put_r8, put_r0, put_rt, put_wa, u1, u2, hn8])
    refine e_bipush 79 dX12_keyAt_77 (by decide) rfl ?_
    refine e_icmp_ne 82 97 dX12_keyAt_79 (by decide) (by decide) (by decide) rfl (fun _ => ?_) (fun h => absurd h (by decide))
    refine e_ls (ls2 := [(0, _), (1, _), (2, _)]) rfl ?_
    refine sk_0 (kk_1 hT hp hb ?_)
    rw [kx0, if_neg (fun q => by omega)] at h
    exact h
  · skip
    refine e_aload_n (i := 0) 42 dX12_keyAt_41 rfl rfl rfl ?_
    refine e_getr (j := 3) 45 fl_12_21 dX12_keyAt_42 at_928 rfl rfl tp_928_3 rfl ?_
    refine e_aload_n (i := 0) 46 dX12_keyAt_45 rfl rfl rfl ?_
    refine e_geti (j := 6) 49 fl_12_97 dX12_keyAt_46 at_928 (by decide) rfl rfl (fun r46 => ?_)
    simp (disch := omega) only [put_r6, put_w6, put_r7, put_w7, put_r9, put_w9, put_r10, put_w10, put_r11, put_w11, put_r12, put_w12, put_r13, put_w13, put_r14, put_w14, put_r15, put_w15, put_ra, put_r8, put_r0, put_rt, put_wa, u1, u2, hn8] at r46 ⊢
    refine e_iload_n (i := 3) 50 dX12_keyAt_49 rfl rfl rfl ?_
    refine e_iadd 51 dX12_keyAt_50 rfl ?_
    refine e_iald 52 dX12_keyAt_51 ar_931 (by omega) (by omega) rfl (fun r51 => ?_)
    simp (disch := omega) only [put_r6, put_w6, put_r7, put_w7, put_r9, put_w9, put_r10, put_w10, put_r11, put_w11, put_r12, put_w12, put_r13, put_w13, put_r14, put_w14, put_r15, put_w15, put_ra, put_r8, put_r0, put_rt, put_wa, u1, u2, hn8, Int.reduceAdd, Int.add_zero] at r51 ⊢
    refine e_ldcS 54 (i := 20) (by decide) rfl rfl dX12_keyAt_52 rfl ?_
    refine e_iload_n (i := 2) 55 dX12_keyAt_54 rfl rfl rfl ?_
    refine e_iload_n (i := 3) 56 dX12_keyAt_55 rfl rfl rfl ?_
    refine e_iadd 57 dX12_keyAt_56 rfl ?_
    refine e_callF (av := [jI _]) 60 (i := 20) (by decide) mt_yJ_charAt mv_yJ_charAt wd_1410 (by decide) dX12_keyAt_57 rfl rfl rfl (Nat.le_of_ble_eq_true rfl) (jroom (by decide)) rfl (c_charAt (i := 20) (k := 1) (z := 117) (by decide) (by decide) (by decide +kernel) ?_)
    dsimp only [jpush]
    (try simp (disch := omega) only [put_r6, put_w6, put_r7, put_w7, put_r9, put_w9, put_r10, put_w10, put_r11, put_w11, put_r12, put_w12, put_r13, put_w13, put_r14, put_w14, put_r15, put_w15, put_ra, put_r8, put_r0, put_rt, put_wa, u1, u2, hn8])
    refine e_icmp_ne 63 69 dX12_keyAt_60 (by omega) (by decide) (by decide) rfl (fun b60 => ?_) (fun b60 => ?_)
    · skip
      refine e_ldcS 71 (i := 20) (by decide) rfl rfl dX12_keyAt_69 rfl ?_
      refine e_iload_n (i := 2) 72 dX12_keyAt_71 rfl rfl rfl ?_
      refine e_iload_n (i := 3) 73 dX12_keyAt_72 rfl rfl rfl ?_
      refine e_iadd 74 dX12_keyAt_73 rfl ?_
      refine e_callF (av := [jI _]) 77 (i := 20) (by decide) mt_yJ_charAt mv_yJ_charAt wd_1410 (by decide) dX12_keyAt_74 rfl rfl rfl (Nat.le_of_ble_eq_true rfl) (jroom (by decide)) rfl (c_charAt (i := 20) (k := 1) (z := 117) (by decide) (by decide) (by decide +kernel) ?_)
      dsimp only [jpush]
      (try simp (disch := omega) only [put_r6, put_w6, put_r7, put_w7, put_r9, put_w9, put_r10, put_w10, put_r11, put_w11, put_r12, put_w12, put_r13, put_w13, put_r14, put_w14, put_r15, put_w15, put_ra, put_r8, put_r0, put_rt, put_wa, u1, u2, hn8])
      refine e_bipush 79 dX12_keyAt_77 (by decide) rfl ?_
      refine e_icmp_ne 82 97 dX12_keyAt_79 (by decide) (by decide) (by decide) rfl (fun _ => ?_) (fun h => absurd h (by decide))
      refine e_ls (ls2 := [(0, _), (1, _), (2, _)]) rfl ?_
      refine sk_0 (kk_1 hT hp hb ?_)
      rw [kx0, if_neg (fun q => by omega)] at h
      exact h
    · skip
      refine e_iinc (lsn := [(3, _), (0, _), (1, _), (2, _)]) 66 dX12_keyAt_63 rfl (by decide) rfl rfl ?_
      refine e_goto 15 dX12_keyAt_66 (by decide) ?_
      refine e_ldcS 17 (i := 20) (by decide) rfl rfl dX12_keyAt_15 rfl ?_
      refine e_iload_n (i := 2) 18 dX12_keyAt_17 rfl rfl rfl ?_
      refine e_iload_n (i := 3) 19 dX12_keyAt_18 rfl rfl rfl ?_
      refine e_iadd 20 dX12_keyAt_19 rfl ?_
      refine e_callF (av := [jI _]) 23 (i := 20) (by decide) mt_yJ_charAt mv_yJ_charAt wd_1410 (by decide) dX12_keyAt_20 rfl rfl rfl (Nat.le_of_ble_eq_true rfl) (jroom (by decide)) rfl (c_charAt (i := 20) (k := 2) (z := 112) (by decide) (by decide) (by decide +kernel) ?_)
      dsimp only [jpush]
      (try simp (disch := omega) only [put_r6, put_w6, put_r7, put_w7, put_r9, put_w9, put_r10, put_w10, put_r11, put_w11, put_r12, put_w12, put_r13, put_w13, put_r14, put_w14, put_r15, put_w15, put_ra, put_r8, put_r0, put_rt, put_wa, u1, u2, hn8])
      refine e_bipush 25 dX12_keyAt_23 (by decide) rfl ?_
      refine e_icmp_eq 28 69 dX12_keyAt_25 (by decide) (by decide) (by decide) rfl (fun h => absurd h (by decide)) (fun _ => ?_)
      refine e_aload_n (i := 0) 29 dX12_keyAt_28 rfl rfl rfl ?_
      refine e_geti (j := 6) 32 fl_12_97 dX12_keyAt_29 at_928 (by decide) rfl rfl (fun r29 => ?_)
      simp (disch := omega) only [put_r6, put_w6, put_r7, put_w7, put_r9, put_w9, put_r10, put_w10, put_r11, put_w11, put_r12, put_w12, put_r13, put_w13, put_r14, put_w14, put_r15, put_w15, put_ra, put_r8, put_r0, put_rt, put_wa, u1, u2, hn8] at r29 ⊢
      refine e_iload_n (i := 3) 33 dX12_keyAt_32 rfl rfl rfl ?_
      refine e_iadd 34 dX12_keyAt_33 rfl ?_
      refine e_aload_n (i := 0) 35 dX12_keyAt_34 rfl rfl rfl ?_
      refine e_geti (j := 7) 38 fl_12_100 dX12_keyAt_35 at_928 (by decide) rfl rfl (fun r35 => ?_)
      simp (disch := omega) only [put_r6, put_w6, put_r7, put_w7, put_r9, put_w9, put_r10, put_w10, put_r11, put_w11, put_r12, put_w12, put_r13, put_w13, put_r14, put_w14, put_r15, put_w15, put_ra, put_r8, put_r0, put_rt, put_wa, u1, u2, hn8] at r35 ⊢
      refine e_icmp_ge 41 69 dX12_keyAt_38 (by omega) (by omega) (by decide) rfl (fun b38 => ?_) (fun b38 => ?_)
      · skip
        refine e_ldcS 71 (i := 20) (by decide) rfl rfl dX12_keyAt_69 rfl ?_
        refine e_iload_n (i := 2) 72 dX12_keyAt_71 rfl rfl rfl ?_
        refine e_iload_n (i := 3) 73 dX12_keyAt_72 rfl rfl rfl ?_
        refine e_iadd 74 dX12_keyAt_73 rfl ?_
        refine e_callF (av := [jI _]) 77 (i := 20) (by decide) mt_yJ_charAt mv_yJ_charAt wd_1410 (by decide) dX12_keyAt_74 rfl rfl rfl (Nat.le_of_ble_eq_true rfl) (jroom (by decide)) rfl (c_charAt (i := 20) (k := 2) (z := 112) (by decide) (by decide) (by decide +kernel) ?_)
        dsimp only [jpush]
        (try simp (disch := omega) only [put_r6, put_w6, put_r7, put_w7, put_r9, put_w9, put_r10, put_w10, put_r11, put_w11, put_r12, put_w12, put_r13, put_w13, put_r14, put_w14, put_r15, put_w15, put_ra, put_r8, put_r0, put_rt, put_wa, u1, u2, hn8])
        refine e_bipush 79 dX12_keyAt_77 (by decide) rfl ?_
        refine e_icmp_ne 82 97 dX12_keyAt_79 (by decide) (by decide) (by decide) rfl (fun _ => ?_) (fun h => absurd h (by decide))
        refine e_ls (ls2 := [(0, _), (1, _), (2, _)]) rfl ?_
        refine sk_0 (kk_1 hT hp hb ?_)
        rw [kx0, if_neg (fun q => by omega)] at h
        exact h
      · skip
        refine e_aload_n (i := 0) 42 dX12_keyAt_41 rfl rfl rfl ?_
        refine e_getr (j := 3) 45 fl_12_21 dX12_keyAt_42 at_928 rfl rfl tp_928_3 rfl ?_
        refine e_aload_n (i := 0) 46 dX12_keyAt_45 rfl rfl rfl ?_
        refine e_geti (j := 6) 49 fl_12_97 dX12_keyAt_46 at_928 (by decide) rfl rfl (fun r46 => ?_)
        simp (disch := omega) only [put_r6, put_w6, put_r7, put_w7, put_r9, put_w9, put_r10, put_w10, put_r11, put_w11, put_r12, put_w12, put_r13, put_w13, put_r14, put_w14, put_r15, put_w15, put_ra, put_r8, put_r0, put_rt, put_wa, u1, u2, hn8] at r46 ⊢
        refine e_iload_n (i := 3) 50 dX12_keyAt_49 rfl rfl rfl ?_
        refine e_iadd 51 dX12_keyAt_50 rfl ?_
        refine e_iald 52 dX12_keyAt_51 ar_931 (by omega) (by omega) rfl (fun r51 => ?_)
        simp (disch := omega) only [put_r6, put_w6, put_r7, put_w7, put_r9, put_w9, put_r10, put_w10, put_r11, put_w11, put_r12, put_w12, put_r13, put_w13, put_r14, put_w14, put_r15, put_w15, put_ra, put_r8, put_r0, put_rt, put_wa, u1, u2, hn8, Int.reduceAdd, Int.add_zero] at r51 ⊢
        refine e_ldcS 54 (i := 20) (by decide) rfl rfl dX12_keyAt_52 rfl ?_
        refine e_iload_n (i := 2) 55 dX12_keyAt_54 rfl rfl rfl ?_
        refine e_iload_n (i := 3) 56 dX12_keyAt_55 rfl rfl rfl ?_
        refine e_iadd 57 dX12_keyAt_56 rfl ?_
        refine e_callF (av := [jI _]) 60 (i := 20) (by decide) mt_yJ_charAt mv_yJ_charAt wd_1410 (by decide) dX12_keyAt_57 rfl rfl rfl (Nat.le_of_ble_eq_true rfl) (jroom (by decide)) rfl (c_charAt (i := 20) (k := 2) (z := 112) (by decide) (by decide) (by decide +kernel) ?_)
        dsimp only [jpush]
        (try simp (disch := omega) only [put_r6, put_w6, put_r7, put_w7, put_r9, put_w9, put_r10, put_w10, put_r11, put_w11, put_r12, put_w12, put_r13, put_w13, put_r14, put_w14, put_r15, put_w15, put_ra, put_r8, put_r0, put_rt, put_wa, u1, u2, hn8])
        refine e_icmp_ne 63 69 dX12_keyAt_60 (by omega) (by decide) (by decide) rfl (fun b60 => ?_) (fun b60 => ?_)
        · skip
          refine e_ldcS 71 (i := 20) (by decide) rfl rfl dX12_keyAt_69 rfl ?_
          refine e_iload_n (i := 2) 72 dX12_keyAt_71 rfl rfl rfl ?_
          refine e_iload_n (i := 3) 73 dX12_keyAt_72 rfl rfl rfl ?_
          refine e_iadd 74 dX12_keyAt_73 rfl ?_
          refine e_callF (av := [jI _]) 77 (i := 20) (by decide) mt_yJ_charAt mv_yJ_charAt wd_1410 (by decide) dX12_keyAt_74 rfl rfl rfl (Nat.le_of_ble_eq_true rfl) (jroom (by decide)) rfl (c_charAt (i := 20) (k := 2) (z := 112) (by decide) (by decide) (by decide +kernel) ?_)
          dsimp only [jpush]
          (try simp (disch := omega) only [put_r6, put_w6, put_r7, put_w7, put_r9, put_w9, put_r10, put_w10, put_r11, put_w11, put_r12, put_w12, put_r13, put_w13, put_r14, put_w14, put_r15, put_w15, put_ra, put_r8, put_r0, put_rt, put_wa, u1, u2, hn8])
          refine e_bipush 79 dX12_keyAt_77 (by decide) rfl ?_
          refine e_icmp_ne 82 97 dX12_keyAt_79 (by decide) (by decide) (by decide) rfl (fun _ => ?_) (fun h => absurd h (by decide))
          refine e_ls (ls2 := [(0, _), (1, _), (2, _)]) rfl ?_
          refine sk_0 (kk_1 hT hp hb ?_)
          rw [kx0, if_neg (fun q => by omega)] at h
          exact h
        · skip
          refine e_iinc (lsn := [(3, _), (0, _), (1, _), (2, _)]) 66 dX12_keyAt_63 rfl (by decide) rfl rfl ?_
          refine e_goto 15 dX12_keyAt_66 (by decide) ?_
          refine e_ldcS 17 (i := 20) (by decide) rfl rfl dX12_keyAt_15 rfl ?_
          refine e_iload_n (i := 2) 18 dX12_keyAt_17 rfl rfl rfl ?_
          refine e_iload_n (i := 3) 19 dX12_keyAt_18 rfl rfl rfl ?_
          refine e_iadd 20 dX12_keyAt_19 rfl ?_
          refine e_callF (av := [jI _]) 23 (i := 20) (by decide) mt_yJ_charAt mv_yJ_charAt wd_1410 (by decide) dX12_keyAt_20 rfl rfl rfl (Nat.le_of_ble_eq_true rfl) (jroom (by decide)) rfl (c_charAt (i := 20) (k := 3) (z := 116) (by decide) (by decide) (by decide +kernel) ?_)
          dsimp only [jpush]
          (try simp (disch := omega) only [put_r6, put_w6, put_r7, put_w7, put_r9, put_w9, put_r10, put_w10, put_r11, put_w11, put_r12, put_w12, put_r13, put_w13, put_r14, put_w14, put_r15, put_w15, put_ra, put_r8, put_r0, put_rt, put_wa, u1, u2, hn8])
          refine e_bipush 25 dX12_keyAt_23 (by decide) rfl ?_
          refine e_icmp_eq 28 69 dX12_keyAt_25 (by decide) (by decide) (by decide) rfl (fun h => absurd h (by decide)) (fun _ => ?_)
          refine e_aload_n (i := 0) 29 dX12_keyAt_28 rfl rfl rfl ?_
          refine e_geti (j := 6) 32 fl_12_97 dX12_keyAt_29 at_928 (by decide) rfl rfl (fun r29 => ?_)
          simp (disch := omega) only [put_r6, put_w6, put_r7, put_w7, put_r9, put_w9, put_r10, put_w10, put_r11, put_w11, put_r12, put_w12, put_r13, put_w13, put_r14, put_w14, put_r15, put_w15, put_ra, put_r8, put_r0, put_rt, put_wa, u1, u2, hn8] at r29 ⊢
          refine e_iload_n (i := 3) 33 dX12_keyAt_32 rfl rfl rfl ?_
          refine e_iadd 34 dX12_keyAt_33 rfl ?_
          refine e_aload_n (i := 0) 35 dX12_keyAt_34 rfl rfl rfl ?_
          refine e_geti (j := 7) 38 fl_12_100 dX12_keyAt_35 at_928 (by decide) rfl rfl (fun r35 => ?_)
          simp (disch := omega) only [put_r6, put_w6, put_r7, put_w7, put_r9, put_w9, put_r10, put_w10, put_r11, put_w11, put_r12, put_w12, put_r13, put_w13, put_r14, put_w14, put_r15, put_w15, put_ra, put_r8, put_r0, put_rt, put_wa, u1, u2, hn8] at r35 ⊢
          refine e_icmp_ge 41 69 dX12_keyAt_38 (by omega) (by omega) (by decide) rfl (fun b38 => ?_) (fun b38 => ?_)
          · skip
            refine e_ldcS 71 (i := 20) (by decide) rfl rfl dX12_keyAt_69 rfl ?_
            refine e_iload_n (i := 2) 72 dX12_keyAt_71 rfl rfl rfl ?_
            refine e_iload_n (i := 3) 73 dX12_keyAt_72 rfl rfl rfl ?_
            refine e_iadd 74 dX12_keyAt_73 rfl ?_
            refine e_callF (av := [jI _]) 77 (i := 20) (by decide) mt_yJ_charAt mv_yJ_charAt wd_1410 (by decide) dX12_keyAt_74 rfl rfl rfl (Nat.le_of_ble_eq_true rfl) (jroom (by decide)) rfl (c_charAt (i := 20) (k := 3) (z := 116) (by decide) (by decide) (by decide +kernel) ?_)
            dsimp only [jpush]
            (try simp (disch := omega) only [put_r6, put_w6, put_r7, put_w7, put_r9, put_w9, put_r10, put_w10, put_r11, put_w11, put_r12, put_w12, put_r13, put_w13, put_r14, put_w14, put_r15, put_w15, put_ra, put_r8, put_r0, put_rt, put_wa, u1, u2, hn8])
            refine e_bipush 79 dX12_keyAt_77 (by decide) rfl ?_
            refine e_icmp_ne 82 97 dX12_keyAt_79 (by decide) (by decide) (by decide) rfl (fun _ => ?_) (fun h => absurd h (by decide))
            refine e_ls (ls2 := [(0, _), (1, _), (2, _)]) rfl ?_
            refine sk_0 (kk_1 hT hp hb ?_)
            rw [kx0, if_neg (fun q => by omega)] at h
            exact h
          · skip
            refine e_aload_n (i := 0) 42 dX12_keyAt_41 rfl rfl rfl ?_
            refine e_getr (j := 3) 45 fl_12_21 dX12_keyAt_42 at_928 rfl rfl tp_928_3 rfl ?_
            refine e_aload_n (i := 0) 46 dX12_keyAt_45 rfl rfl rfl ?_
            refine e_geti (j := 6) 49 fl_12_97 dX12_keyAt_46 at_928 (by decide) rfl rfl (fun r46 => ?_)
            simp (disch := omega) only [put_r6, put_w6, put_r7, put_w7, put_r9, put_w9, put_r10, put_w10, put_r11, put_w11, put_r12, put_w12, put_r13, put_w13, put_r14, put_w14, put_r15, put_w15, put_ra, put_r8, put_r0, put_rt, put_wa, u1, u2, hn8] at r46 ⊢
            refine e_iload_n (i := 3) 50 dX12_keyAt_49 rfl rfl rfl ?_
            refine e_iadd 51 dX12_keyAt_50 rfl ?_
            refine e_iald 52 dX12_keyAt_51 ar_931 (by omega) (by omega) rfl (fun r51 => ?_)
            simp (disch := omega) only [put_r6, put_w6, put_r7, put_w7, put_r9, put_w9, put_r10, put_w10, put_r11, put_w11, put_r12, put_w12, put_r13, put_w13, put_r14, put_w14, put_r15, put_w15, put_ra, put_r8, put_r0, put_rt, put_wa, u1, u2, hn8, Int.reduceAdd, Int.add_zero] at r51 ⊢
            refine e_ldcS 54 (i := 20) (by decide) rfl rfl dX12_keyAt_52 rfl ?_
            refine e_iload_n (i := 2) 55 dX12_keyAt_54 rfl rfl rfl ?_
            refine e_iload_n (i := 3) 56 dX12_keyAt_55 rfl rfl rfl ?_
            refine e_iadd 57 dX12_keyAt_56 rfl ?_
            refine e_callF (av := [jI _]) 60 (i := 20) (by decide) mt_yJ_charAt mv_yJ_charAt wd_1410 (by decide) dX12_keyAt_57 rfl rfl rfl (Nat.le_of_ble_eq_true rfl) (jroom (by decide)) rfl (c_charAt (i := 20) (k := 3) (z := 116) (by decide) (by decide) (by decide +kernel) ?_)
            dsimp only [jpush]
            (try simp (disch := omega) only [put_r6, put_w6, put_r7, put_w7, put_r9, put_w9, put_r10, put_w10, put_r11, put_w11, put_r12, put_w12, put_r13, put_w13, put_r14, put_w14, put_r15, put_w15, put_ra, put_r8, put_r0, put_rt, put_wa, u1, u2, hn8])
            refine e_icmp_ne 63 69 dX12_keyAt_60 (by omega) (by decide) (by decide) rfl (fun b60 => ?_) (fun b60 => ?_)
            · skip
              refine e_ldcS 71 (i := 20) (by decide) rfl rfl dX12_keyAt_69 rfl ?_
              refine e_iload_n (i := 2) 72 dX12_keyAt_71 rfl rfl rfl ?_
              refine e_iload_n (i := 3) 73 dX12_keyAt_72 rfl rfl rfl ?_
              refine e_iadd 74 dX12_keyAt_73 rfl ?_
              refine e_callF (av := [jI _]) 77 (i := 20) (by decide) mt_yJ_charAt mv_yJ_charAt wd_1410 (by decide) dX12_keyAt_74 rfl rfl rfl (Nat.le_of_ble_eq_true rfl) (jroom (by decide)) rfl (c_charAt (i := 20) (k := 3) (z := 116) (by decide) (by decide) (by decide +kernel) ?_)
              dsimp only [jpush]
              (try simp (disch := omega) only [put_r6, put_w6, put_r7, put_w7, put_r9, put_w9, put_r10, put_w10, put_r11, put_w11, put_r12, put_w12, put_r13, put_w13, put_r14, put_w14, put_r15, put_w15, put_ra, put_r8, put_r0, put_rt, put_wa, u1, u2, hn8])
              refine e_bipush 79 dX12_keyAt_77 (by decide) rfl ?_
              refine e_icmp_ne 82 97 dX12_keyAt_79 (by decide) (by decide) (by decide) rfl (fun _ => ?_) (fun h => absurd h (by decide))
              refine e_ls (ls2 := [(0, _), (1, _), (2, _)]) rfl ?_
              refine sk_0 (kk_1 hT hp hb ?_)
              rw [kx0, if_neg (fun q => by omega)] at h
              exact h
            · skip
              refine e_iinc (lsn := [(3, _), (0, _), (1, _), (2, _)]) 66 dX12_keyAt_63 rfl (by decide) rfl rfl ?_
              refine e_goto 15 dX12_keyAt_66 (by decide) ?_
              refine e_ldcS 17 (i := 20) (by decide) rfl rfl dX12_keyAt_15 rfl ?_
              refine e_iload_n (i := 2) 18 dX12_keyAt_17 rfl rfl rfl ?_
              refine e_iload_n (i := 3) 19 dX12_keyAt_18 rfl rfl rfl ?_
              refine e_iadd 20 dX12_keyAt_19 rfl ?_
              refine e_callF (av := [jI _]) 23 (i := 20) (by decide) mt_yJ_charAt mv_yJ_charAt wd_1410 (by decide) dX12_keyAt_20 rfl rfl rfl (Nat.le_of_ble_eq_true rfl) (jroom (by decide)) rfl (c_charAt (i := 20) (k := 4) (z := 111) (by decide) (by decide) (by decide +kernel) ?_)
              dsimp only [jpush]
              (try simp (disch := omega) only [put_r6, put_w6, put_r7, put_w7, put_r9, put_w9, put_r10, put_w10, put_r11, put_w11, put_r12, put_w12, put_r13, put_w13, put_r14, put_w14, put_r15, put_w15, put_ra, put_r8, put_r0, put_rt, put_wa, u1, u2, hn8])
              refine e_bipush 25 dX12_keyAt_23 (by decide) rfl ?_
              refine e_icmp_eq 28 69 dX12_keyAt_25 (by decide) (by decide) (by decide) rfl (fun h => absurd h (by decide)) (fun _ => ?_)
              refine e_aload_n (i := 0) 29 dX12_keyAt_28 rfl rfl rfl ?_
              refine e_geti (j := 6) 32 fl_12_97 dX12_keyAt_29 at_928 (by decide) rfl rfl (fun r29 => ?_)
              simp (disch := omega) only [put_r6, put_w6, put_r7, put_w7, put_r9, put_w9, put_r10, put_w10, put_r11, put_w11, put_r12, put_w12, put_r13, put_w13, put_r14, put_w14, put_r15, put_w15, put_ra, put_r8, put_r0, put_rt, put_wa, u1, u2, hn8] at r29 ⊢
              refine e_iload_n (i := 3) 33 dX12_keyAt_32 rfl rfl rfl ?_
              refine e_iadd 34 dX12_keyAt_33 rfl ?_
              refine e_aload_n (i := 0) 35 dX12_keyAt_34 rfl rfl rfl ?_
              refine e_geti (j := 7) 38 fl_12_100 dX12_keyAt_35 at_928 (by decide) rfl rfl (fun r35 => ?_)
              simp (disch := omega) only [put_r6, put_w6, put_r7, put_w7, put_r9, put_w9, put_r10, put_w10, put_r11, put_w11, put_r12, put_w12, put_r13, put_w13, put_r14, put_w14, put_r15, put_w15, put_ra, put_r8, put_r0, put_rt, put_wa, u1, u2, hn8] at r35 ⊢
              refine e_icmp_ge 41 69 dX12_keyAt_38 (by omega) (by omega) (by decide) rfl (fun b38 => ?_) (fun b38 => ?_)
              · skip
                refine e_ldcS 71 (i := 20) (by decide) rfl rfl dX12_keyAt_69 rfl ?_
                refine e_iload_n (i := 2) 72 dX12_keyAt_71 rfl rfl rfl ?_
                refine e_iload_n (i := 3) 73 dX12_keyAt_72 rfl rfl rfl ?_
                refine e_iadd 74 dX12_keyAt_73 rfl ?_
                refine e_callF (av := [jI _]) 77 (i := 20) (by decide) mt_yJ_charAt mv_yJ_charAt wd_1410 (by decide) dX12_keyAt_74 rfl rfl rfl (Nat.le_of_ble_eq_true rfl) (jroom (by decide)) rfl (c_charAt (i := 20) (k := 4) (z := 111) (by decide) (by decide) (by decide +kernel) ?_)
                dsimp only [jpush]
                (try simp (disch := omega) only [put_r6, put_w6, put_r7, put_w7, put_r9, put_w9, put_r10, put_w10, put_r11, put_w11, put_r12, put_w12, put_r13, put_w13, put_r14, put_w14, put_r15, put_w15, put_ra, put_r8, put_r0, put_rt, put_wa, u1, u2, hn8])
                refine e_bipush 79 dX12_keyAt_77 (by decide) rfl ?_
                refine e_icmp_ne 82 97 dX12_keyAt_79 (by decide) (by decide) (by decide) rfl (fun _ => ?_) (fun h => absurd h (by decide))
                refine e_ls (ls2 := [(0, _), (1, _), (2, _)]) rfl ?_
                refine sk_0 (kk_1 hT hp hb ?_)
                rw [kx0, if_neg (fun q => by omega)] at h
                exact h
              · skip
                refine e_aload_n (i := 0) 42 dX12_keyAt_41 rfl rfl rfl ?_
                refine e_getr (j := 3) 45 fl_12_21 dX12_keyAt_42 at_928 rfl rfl tp_928_3 rfl ?_
                refine e_aload_n (i := 0) 46 dX12_keyAt_45 rfl rfl rfl ?_
                refine e_geti (j := 6) 49 fl_12_97 dX12_keyAt_46 at_928 (by decide) rfl rfl (fun r46 => ?_)
                simp (disch := omega) only [put_r6, put_w6, put_r7, put_w7, put_r9, put_w9, put_r10, put_w10, put_r11, put_w11, put_r12, put_w12, put_r13, put_w13, put_r14, put_w14, put_r15, put_w15, put_ra, put_r8, put_r0, put_rt, put_wa, u1, u2, hn8] at r46 ⊢
                refine e_iload_n (i := 3) 50 dX12_keyAt_49 rfl rfl rfl ?_
                refine e_iadd 51 dX12_keyAt_50 rfl ?_
                refine e_iald 52 dX12_keyAt_51 ar_931 (by omega) (by omega) rfl (fun r51 => ?_)
                simp (disch := omega) only [put_r6, put_w6, put_r7, put_w7, put_r9, put_w9, put_r10, put_w10, put_r11, put_w11, put_r12, put_w12, put_r13, put_w13, put_r14, put_w14, put_r15, put_w15, put_ra, put_r8, put_r0, put_rt, put_wa, u1, u2, hn8, Int.reduceAdd, Int.add_zero] at r51 ⊢
                refine e_ldcS 54 (i := 20) (by decide) rfl rfl dX12_keyAt_52 rfl ?_
                refine e_iload_n (i := 2) 55 dX12_keyAt_54 rfl rfl rfl ?_
                refine e_iload_n (i := 3) 56 dX12_keyAt_55 rfl rfl rfl ?_
                refine e_iadd 57 dX12_keyAt_56 rfl ?_
                refine e_callF (av := [jI _]) 60 (i := 20) (by decide) mt_yJ_charAt mv_yJ_charAt wd_1410 (by decide) dX12_keyAt_57 rfl rfl rfl (Nat.le_of_ble_eq_true rfl) (jroom (by decide)) rfl (c_charAt (i := 20) (k := 4) (z := 111) (by decide) (by decide) (by decide +kernel) ?_)
                dsimp only [jpush]
                (try simp (disch := omega) only [put_r6, put_w6, put_r7, put_w7, put_r9, put_w9, put_r10, put_w10, put_r11, put_w11, put_r12, put_w12, put_r13, put_w13, put_r14, put_w14, put_r15, put_w15, put_ra, put_r8, put_r0, put_rt, put_wa, u1, u2, hn8])
                refine e_icmp_ne 63 69 dX12_keyAt_60 (by omega) (by decide) (by decide) rfl (fun b60 => ?_) (fun b60 => ?_)
                · skip
                  refine e_ldcS 71 (i := 20) (by decide) rfl rfl dX12_keyAt_69 rfl ?_
                  refine e_iload_n (i := 2) 72 dX12_keyAt_71 rfl rfl rfl ?_
                  refine e_iload_n (i := 3) 73 dX12_keyAt_72 rfl rfl rfl ?_
                  refine e_iadd 74 dX12_keyAt_73 rfl ?_
                  refine e_callF (av := [jI _]) 77 (i := 20) (by decide) mt_yJ_charAt mv_yJ_charAt wd_1410 (by decide) dX12_keyAt_74 rfl rfl rfl (Nat.le_of_ble_eq_true rfl) (jroom (by decide)) rfl (c_charAt (i := 20) (k := 4) (z := 111) (by decide) (by decide) (by decide +kernel) ?_)
                  dsimp only [jpush]
                  (try simp (disch := omega) only [put_r6, put_w6, put_r7, put_w7, put_r9, put_w9, put_r10, put_w10, put_r11, put_w11, put_r12, put_w12, put_r13, put_w13, put_r14, put_w14, put_r15, put_w15, put_ra, put_r8, put_r0, put_rt, put_wa, u1, u2, hn8])
                  refine e_bipush 79 dX12_keyAt_77 (by decide) rfl ?_
                  refine e_icmp_ne 82 97 dX12_keyAt_79 (by decide) (by decide) (by decide) rfl (fun _ => ?_) (fun h => absurd h (by decide))
                  refine e_ls (ls2 := [(0, _), (1, _), (2, _)]) rfl ?_
                  refine sk_0 (kk_1 hT hp hb ?_)
                  rw [kx0, if_neg (fun q => by omega)] at h
                  exact h
                · skip
                  refine e_iinc (lsn := [(3, _), (0, _), (1, _), (2, _)]) 66 dX12_keyAt_63 rfl (by decide) rfl rfl ?_
                  refine e_goto 15 dX12_keyAt_66 (by decide) ?_
                  refine e_ldcS 17 (i := 20) (by decide) rfl rfl dX12_keyAt_15 rfl ?_
                  refine e_iload_n (i := 2) 18 dX12_keyAt_17 rfl rfl rfl ?_
                  refine e_iload_n (i := 3) 19 dX12_keyAt_18 rfl rfl rfl ?_
                  refine e_iadd 20 dX12_keyAt_19 rfl ?_
                  refine e_callF (av := [jI _]) 23 (i := 20) (by decide) mt_yJ_charAt mv_yJ_charAt wd_1410 (by decide) dX12_keyAt_20 rfl rfl rfl (Nat.le_of_ble_eq_true rfl) (jroom (by decide)) rfl (c_charAt (i := 20) (k := 5) (z := 32) (by decide) (by decide) (by decide +kernel) ?_)
                  dsimp only [jpush]
                  (try simp (disch := omega) only [put_r6, put_w6, put_r7, put_w7, put_r9, put_w9, put_r10, put_w10, put_r11, put_w11, put_r12, put_w12, put_r13, put_w13, put_r14, put_w14, put_r15, put_w15, put_ra, put_r8, put_r0, put_rt, put_wa, u1, u2, hn8])
                  refine e_bipush 25 dX12_keyAt_23 (by decide) rfl ?_
                  refine e_icmp_eq 28 69 dX12_keyAt_25 (by decide) (by decide) (by decide) rfl (fun _ => ?_) (fun h => absurd h (by decide))
                  refine e_ldcS 71 (i := 20) (by decide) rfl rfl dX12_keyAt_69 rfl ?_
                  refine e_iload_n (i := 2) 72 dX12_keyAt_71 rfl rfl rfl ?_
                  refine e_iload_n (i := 3) 73 dX12_keyAt_72 rfl rfl rfl ?_
                  refine e_iadd 74 dX12_keyAt_73 rfl ?_
                  refine e_callF (av := [jI _]) 77 (i := 20) (by decide) mt_yJ_charAt mv_yJ_charAt wd_1410 (by decide) dX12_keyAt_74 rfl rfl rfl (Nat.le_of_ble_eq_true rfl) (jroom (by decide)) rfl (c_charAt (i := 20) (k := 5) (z := 32) (by decide) (by decide) (by decide +kernel) ?_)
                  dsimp only [jpush]
                  (try simp (disch := omega) only [put_r6, put_w6, put_r7, put_w7, put_r9, put_w9, put_r10, put_w10, put_r11, put_w11, put_r12, put_w12, put_r13, put_w13, put_r14, put_w14, put_r15, put_w15, put_ra, put_r8, put_r0, put_rt, put_wa, u1, u2, hn8])
                  refine e_bipush 79 dX12_keyAt_77 (by decide) rfl ?_
                  refine e_icmp_ne 82 97 dX12_keyAt_79 (by decide) (by decide) (by decide) rfl (fun h => absurd h (by decide)) (fun _ => ?_)
                  refine e_aload_n (i := 0) 83 dX12_keyAt_82 rfl rfl rfl ?_
                  refine e_geti (j := 6) 86 fl_12_97 dX12_keyAt_83 at_928 (by decide) rfl rfl (fun r83 => ?_)
                  simp (disch := omega) only [put_r6, put_w6, put_r7, put_w7, put_r9, put_w9, put_r10, put_w10, put_r11, put_w11, put_r12, put_w12, put_r13, put_w13, put_r14, put_w14, put_r15, put_w15, put_ra, put_r8, put_r0, put_rt, put_wa, u1, u2, hn8] at r83 ⊢
                  refine e_iload_n (i := 3) 87 dX12_keyAt_86 rfl rfl rfl ?_
                  refine e_iadd 88 dX12_keyAt_87 rfl ?_
                  refine e_aload_n (i := 0) 89 dX12_keyAt_88 rfl rfl rfl ?_
                  refine e_geti (j := 7) 92 fl_12_100 dX12_keyAt_89 at_928 (by decide) rfl rfl (fun r89 => ?_)
                  simp (disch := omega) only [put_r6, put_w6, put_r7, put_w7, put_r9, put_w9, put_r10, put_w10, put_r11, put_w11, put_r12, put_w12, put_r13, put_w13, put_r14, put_w14, put_r15, put_w15, put_ra, put_r8, put_r0, put_rt, put_wa, u1, u2, hn8] at r89 ⊢
                  refine e_icmp_ne 95 97 dX12_keyAt_92 (by omega) (by omega) (by decide) rfl (fun b92 => ?_) (fun b92 => ?_)
                  · skip
                    refine e_ls (ls2 := [(0, _), (1, _), (2, _)]) rfl ?_
                    refine sk_0 (kk_1 hT hp hb ?_)
                    rw [kx0, if_neg (fun q => by omega)] at h
                    exact h
                  · skip
                    refine e_iload_n (i := 1) 96 dX12_keyAt_95 rfl rfl rfl ?_
                    refine e_iret dX12_keyAt_96 ?_
                    rw [kx0, if_pos (by omega)] at h
                    exact h

theorem m_keyAt {M : jM} {n : Int} {Q : Int → jM → Prop} (hT : RT M n) {s : PS} (hp : 0 ≤ s.1) (hb : s.1 ≤ s.2.1 ∧ s.2.1 ≤ n) (h : Q (kx0 (M 931) s.1 s.2.1) (put M s)) : jCt yX12_keyAt cX12_keyAt 4 (some .int) 5 [jR 928] (put M s) Q := by
  refine jCt_of mt_yX12_keyAt (Nat.le_of_ble_eq_true rfl) (fun X => ?_)
  refine e_iconst 1 dX12_keyAt_0 rfl ?_
  refine e_istore_n (i := 1) (lsn := [(1, _), (0, _)]) 2 dX12_keyAt_1 rfl (by decide) rfl rfl ?_
  refine e_iconst 3 dX12_keyAt_2 rfl ?_
  refine e_istore_n (i := 2) (lsn := [(2, _), (1, _), (0, _)]) 4 dX12_keyAt_3 rfl (by decide) rfl rfl ?_
  refine e_ls (ls2 := [(0, _), (1, _), (2, _)]) rfl ?_
  exact kk_0 hT hp hb h

