/-! TEXTS *** the reference: text -/
theorem tx_end {M Y W : jM} {z : PS} {what wa : Int} (hK : ∀ k, k ≠ 928 → k ≠ 932 → Y k = M k) (f0 : Y 928 0 = 0) (f5 : Y 928 5 = 0) (hwa : wa = if z.2.2.2.2.1 = 0 then -1 else z.2.2.2.2.2.1) (hW : ∀ k, k ≠ 929 → W k = jset (jset (put Y z) 928 16 z.2.2.2.2.1) 928 17 wa k) (h9 : z.2.2.2.2.1 ≠ 0 → W 929 = M 929) (h9b : z.2.2.2.2.1 = 0 → ∀ i, W 929 i = if txLo what ≤ i ∧ i < txHi what then z.2.2.2.2.2.2.2.2.2 i else M 929 i) : TxEnd M W what z := by
  refine ⟨fun k a b c => ?_, ?_, ?_, ?_, ?_, h9, h9b⟩
  · rw [hW k b, row_k a, row_k a, put_o c a, hK k a c]
  · rw [hW 928 (by omega), jset_j (by omega), jset_j (by omega), put_r0, f0]
  · rw [hW 928 (by omega), jset_j (by omega), jset_j (by omega), put_r5, f5]
  · rw [hW 928 (by omega), jset_j (by omega), jset_same]
  · rw [hW 928 (by omega), jset_same, hwa]
theorem m_text {what n : Int} {M : jM} {Q : Int → jM → Prop} (ht : M 928 0 = 0) (hwh : -2147483648 ≤ what ∧ what ≤ 2147483647) (hn0 : -2147483648 ≤ n ∧ n ≤ 2147483647) (h5 : 0 ≤ M 928 5 ∧ M 928 5 ≤ 400) (hby : ∀ i : Int, 0 ≤ i → i < M 928 5 → 0 ≤ M 931 i ∧ M 931 i ≤ 255) (h2 : what < 0 ∨ 1 < what → Q (-2) M) (h3 : (0 ≤ what ∧ what ≤ 1) ∧ (n < 0 ∨ M 928 5 < n) → Q (-3) M) (h : (0 ≤ what ∧ what ≤ 1) ∧ 0 ≤ n ∧ n ≤ M 928 5 → ∀ Y : jM, TxEnd M Y what (txZ M n what) → Q (txAns what (txZ M n what)) Y) : jCt yX12_text cX12_text 6 (some .int) 37 [jR 928, jI what, jI n] M Q := by
  refine jCt_of mt_yX12_text (Nat.le_of_ble_eq_true rfl) (fun X => ?_)
  refine e_ok (fun hok => ?_)
  have hok10 := (hok 928 10).2 (by decide +kernel)
  refine e_aload_n (i := 0) 1 dX12_text_0 rfl rfl rfl ?_
  refine e_iconst 2 dX12_text_1 rfl ?_
  refine e_put0 (j := 0) 5 fl_12_1 dX12_text_2 at_928 rfl rfl rfl (by decide) ht rfl ?_
  refine e_iload_n (i := 1) 6 dX12_text_5 rfl rfl rfl ?_
  refine e_i2l 7 dX12_text_6 (by omega) rfl ?_
  refine e_lconst0 8 dX12_text_7 rfl ?_
  refine e_lconst1 9 dX12_text_8 rfl ?_
  refine e_callS 12 mt_yX12_within ms_yX12_within wd_1390 (by decide) dX12_text_9 rfl rfl (Nat.le_of_ble_eq_true rfl) (jroom (by decide)) rfl (m_within (by omega) (by omega) (by omega) (fun w9 => ?_) (fun w9 => ?_))
  · dsimp only [jpush]
    refine e_if_ne 15 18 dX12_text_12 (by decide) (by decide) rfl (fun _ => ?_) (fun h => absurd h (by decide))
    refine e_iload_n (i := 2) 19 dX12_text_18 rfl rfl rfl ?_
    refine e_i2l 20 dX12_text_19 (by omega) rfl ?_
    refine e_lconst0 21 dX12_text_20 rfl ?_
    refine e_aload_n (i := 0) 22 dX12_text_21 rfl rfl rfl ?_
    refine e_geti (j := 5) 25 fl_12_79 dX12_text_22 at_928 (by decide) rfl rfl (fun r22 => ?_)
    refine e_i2l 26 dX12_text_25 (by omega) rfl ?_
    refine e_callS 29 mt_yX12_within ms_yX12_within wd_1390 (by decide) dX12_text_26 rfl rfl (Nat.le_of_ble_eq_true rfl) (jroom (by decide)) rfl (m_within (by omega) (by omega) (by omega) (fun w26 => ?_) (fun w26 => ?_))
    · dsimp only [jpush]
      refine e_if_ne 32 35 dX12_text_29 (by decide) (by decide) rfl (fun _ => ?_) (fun h => absurd h (by decide))
      refine e_aload_n (i := 0) 36 dX12_text_35 rfl rfl rfl ?_
      refine e_iload_n (i := 2) 37 dX12_text_36 rfl rfl rfl ?_
      refine e_puti (j := 8) 40 fl_12_82 dX12_text_37 at_928 rfl rfl rfl (by omega) rfl ?_
      refine e_aload_n (i := 0) 41 dX12_text_40 rfl rfl rfl ?_
      refine e_iconst 42 dX12_text_41 rfl ?_
      refine e_puti (j := 5) 45 fl_12_79 dX12_text_42 at_928 rfl rfl rfl (by decide) rfl ?_
      refine e_aload_n (i := 0) 46 dX12_text_45 rfl rfl rfl ?_
      refine e_iconst 47 dX12_text_46 rfl ?_
      refine e_puti (j := 7) 50 fl_12_100 dX12_text_47 at_928 rfl rfl rfl (by decide) rfl ?_
      refine e_aload_n (i := 0) 51 dX12_text_50 rfl rfl rfl ?_
      refine e_iconst 52 dX12_text_51 rfl ?_
      refine e_puti (j := 11) 55 fl_12_123 dX12_text_52 at_928 rfl rfl rfl (by decide) rfl ?_
      refine e_aload_n (i := 0) 56 dX12_text_55 rfl rfl rfl ?_
      refine e_iconst 57 dX12_text_56 rfl ?_
      refine e_puti (j := 13) 60 fl_12_179 dX12_text_57 at_928 rfl rfl rfl (by decide) rfl ?_
      refine e_aload_n (i := 0) 61 dX12_text_60 rfl rfl rfl ?_
      refine e_iconst 62 dX12_text_61 rfl ?_
      refine e_puti (j := 14) 65 fl_12_166 dX12_text_62 at_928 rfl rfl rfl (by decide) rfl ?_
      refine e_aload_n (i := 0) 66 dX12_text_65 rfl rfl rfl ?_
      refine e_iconst 67 dX12_text_66 rfl ?_
      refine e_puti (j := 15) 70 fl_12_153 dX12_text_67 at_928 rfl rfl rfl (by decide) rfl ?_
      refine e_iconst 71 dX12_text_70 rfl ?_
      refine e_istore_n (i := 3) (lsn := [(3, _), (0, _), (1, _), (2, _)]) 72 dX12_text_71 rfl (by decide) rfl rfl ?_
      refine e_ls (ls2 := [(0, _), (1, _), (2, _), (3, _)]) rfl ?_
      refine lt_fresh (M := M) (fun Y hY hA => ?_) 582 0 (by omega) (by omega) _ (fun _ _ => rfl) (fun i => by rw [if_neg (by omega)])
      have f0 : Y 928 0 = 0 := by
        rw [hY 928 (by omega)]
        simp (disch := omega) only [jset_k, jset_j, jset_same, true_and, and_true]
        exact ht
      have f5 : Y 928 5 = 0 := by
        rw [hY 928 (by omega)]
        simp (disch := omega) only [jset_k, jset_j, jset_same, true_and, and_true]
      have f6 : Y 928 6 = M 928 6 := by
        rw [hY 928 (by omega)]
        simp (disch := omega) only [jset_k, jset_j, jset_same, true_and, and_true]
      have f7 : Y 928 7 = 0 := by
        rw [hY 928 (by omega)]
        simp (disch := omega) only [jset_k, jset_j, jset_same, true_and, and_true]
      have f8 : Y 928 8 = n := by
        rw [hY 928 (by omega)]
        simp (disch := omega) only [jset_k, jset_j, jset_same, true_and, and_true]
      have f9 : Y 928 9 = M 928 9 := by
        rw [hY 928 (by omega)]
        simp (disch := omega) only [jset_k, jset_j, jset_same, true_and, and_true]
      have f10 : Y 928 10 = M 928 10 := by
        rw [hY 928 (by omega)]
        simp (disch := omega) only [jset_k, jset_j, jset_same, true_and, and_true]
      have f11 : Y 928 11 = 0 := by
        rw [hY 928 (by omega)]
        simp (disch := omega) only [jset_k, jset_j, jset_same, true_and, and_true]
      have f12 : Y 928 12 = M 928 12 := by
        rw [hY 928 (by omega)]
        simp (disch := omega) only [jset_k, jset_j, jset_same, true_and, and_true]
      have f13 : Y 928 13 = 0 := by
        rw [hY 928 (by omega)]
        simp (disch := omega) only [jset_k, jset_j, jset_same, true_and, and_true]
      have f14 : Y 928 14 = 0 := by
        rw [hY 928 (by omega)]
        simp (disch := omega) only [jset_k, jset_j, jset_same, true_and, and_true]
      have f15 : Y 928 15 = 0 := by
        rw [hY 928 (by omega)]
        simp (disch := omega) only [jset_k, jset_j, jset_same, true_and, and_true]
      have hK : ∀ k, k ≠ 928 → k ≠ 932 → Y k = M k := fun k a b => by
        rw [hY k b]
        funext j
        simp (disch := omega) only [jset_k, jset_j, jset_same, true_and, and_true]
      have f31 : Y 931 = M 931 := hK 931 (by omega) (by omega)
      have fA : Y 932 = txA M := funext fun i => by
        rw [hA i]
        simp (disch := omega) only [jset_k, jset_j, jset_same, true_and, and_true]
        rfl
      have hT : RT Y n := ⟨f8, by omega, fun i a b => by rw [f31]; exact hby i a (by omega)⟩
      have hp : put Y (tx0 M) = Y := by
        have e := put_self (Y := Y)
        rw [f6, f7, f9, f10, f11, f12, f13, f14, f15, fA] at e
        exact e
      have hv10 : -2147483648 ≤ M 928 10 ∧ M 928 10 ≤ 2147483647 := hok10
      have hI1 := pi_tx0 hT f31 hv10
      have i1 := hI1.1
      rw [← hp]
      have hn8 := f8
      have hn := hT.2.1
      refine e_aload_n (i := 0) 114 dX12_text_113 rfl rfl rfl ?_
      refine e_callV 117 mt_yX12_next mv_yX12_next wd_1393 (by decide) dX12_text_114 at_928 jc_12 rfl rfl rfl (Nat.le_of_ble_eq_true rfl) (jroom (by decide)) rfl (m_next hT (show 0 ≤ (0 : Int) ∧ (0 : Int) ≤ n by omega) ?_)
      dsimp only [jpush]
      (try simp (disch := omega) only [put_r6, put_w6, put_r7, put_w7, put_r9, put_w9, put_r10, put_w10, put_r11, put_w11, put_r12, put_w12, put_r13, put_w13, put_r14, put_w14, put_r15, put_w15, put_ra, put_r8, put_r0, put_rt, put_wa, u1, u2, hn8])
      rw [f31]
      obtain ⟨s1, e1⟩ : ∃ z, z = pNext (M 931) n (tx0 M) := ⟨_, rfl⟩
      rw [← e1] at hI1 i1 ⊢
      refine lt_top hT (by omega) 500 s1 hI1 (fun _ => by omega) ?_
      have hIz := pTop_ok (what := what) hT 500 s1 hI1
      rw [f31] at hIz ⊢
      obtain ⟨z, hz⟩ : ∃ z, z = pTop (M 931) n what 500 s1 := ⟨_, rfl⟩
      rw [← hz] at hIz ⊢
      have wz := hIz.2.2.2.1
      have hZ : txZ M n what = z := by
        rw [hz, e1]
        rfl
      rw [hZ] at h
      refine e_aload_n (i := 0) 152 dX12_text_151 rfl rfl rfl ?_
      refine e_aload_n (i := 0) 153 dX12_text_152 rfl rfl rfl ?_
      refine e_geti (j := 11) 156 fl_12_123 dX12_text_153 at_928 (by decide) rfl rfl (fun r153 => ?_)
      simp (disch := omega) only [jset_k, jset_j, jset_same, true_and, and_true, put_r6, put_w6, put_r7, put_w7, put_r9, put_w9, put_r10, put_w10, put_r11, put_w11, put_r12, put_w12, put_r13, put_w13, put_r14, put_w14, put_r15, put_w15, put_ra, put_r8, put_r0, put_rt, put_wa, u1, u2, hn8, hn8] at r153 ⊢
      refine e_puti (j := 16) 159 fl_12_195 dX12_text_156 at_928 rfl rfl rfl (by omega) rfl ?_
      refine e_aload_n (i := 0) 160 dX12_text_159 rfl rfl rfl ?_
      refine e_aload_n (i := 0) 161 dX12_text_160 rfl rfl rfl ?_
      refine e_geti (j := 11) 164 fl_12_123 dX12_text_161 at_928 (by decide) rfl rfl (fun r161 => ?_)
      simp (disch := omega) only [jset_k, jset_j, jset_same, true_and, and_true, put_r6, put_w6, put_r7, put_w7, put_r9, put_w9, put_r10, put_w10, put_r11, put_w11, put_r12, put_w12, put_r13, put_w13, put_r14, put_w14, put_r15, put_w15, put_ra, put_r8, put_r0, put_rt, put_wa, u1, u2, hn8, hn8] at r161 ⊢
      refine e_if_ne 167 171 dX12_text_164 (by omega) (by decide) rfl (fun b164 => ?_) (fun b164 => ?_)
      · first
         | (exfalso; omega)
         | (skip
            refine e_aload_n (i := 0) 172 dX12_text_171 rfl rfl rfl ?_
            refine e_geti (j := 12) 175 fl_12_126 dX12_text_172 at_928 (by decide) rfl rfl (fun r172 => ?_)
            simp (disch := omega) only [jset_k, jset_j, jset_same, true_and, and_true, put_r6, put_w6, put_r7, put_w7, put_r9, put_w9, put_r10, put_w10, put_r11, put_w11, put_r12, put_w12, put_r13, put_w13, put_r14, put_w14, put_r15, put_w15, put_ra, put_r8, put_r0, put_rt, put_wa, u1, u2, hn8, hn8] at r172 ⊢
            refine e_puti (j := 17) 178 fl_12_27 dX12_text_175 at_928 rfl rfl rfl (by omega) rfl ?_
            refine e_aload_n (i := 0) 179 dX12_text_178 rfl rfl rfl ?_
            refine e_geti (j := 11) 182 fl_12_123 dX12_text_179 at_928 (by decide) rfl rfl (fun r179 => ?_)
            simp (disch := omega) only [jset_k, jset_j, jset_same, true_and, and_true, put_r6, put_w6, put_r7, put_w7, put_r9, put_w9, put_r10, put_w10, put_r11, put_w11, put_r12, put_w12, put_r13, put_w13, put_r14, put_w14, put_r15, put_w15, put_ra, put_r8, put_r0, put_rt, put_wa, u1, u2, hn8, hn8] at r179 ⊢
            refine e_if_eq 185 193 dX12_text_182 (by omega) (by decide) rfl (fun b182 => ?_) (fun b182 => ?_)
            · first
               | (exfalso; omega)
               | (skip
                  refine e_iload_n (i := 1) 194 dX12_text_193 rfl rfl rfl ?_
                  refine e_if_ne 197 201 dX12_text_194 (by omega) (by decide) rfl (fun b194 => ?_) (fun b194 => ?_)
                  · first
                     | (exfalso; omega)
                     | (skip
                        refine e_bipush 203 dX12_text_201 (by decide) rfl ?_
                        refine e_istore_n (i := 3) (lsn := [(3, _), (0, _), (1, _), (2, _)]) 204 dX12_text_203 rfl (by decide) rfl rfl ?_
                        refine e_iload_n (i := 1) 205 dX12_text_204 rfl rfl rfl ?_
                        refine e_if_ne 208 213 dX12_text_205 (by omega) (by decide) rfl (fun b205 => ?_) (fun b205 => ?_)
                        · first
                           | (exfalso; omega)
                           | (skip
                              refine e_sipush 216 dX12_text_213 (by decide) rfl ?_
                              refine e_istore (lsn := [(4, _), (3, _), (0, _), (1, _), (2, _)]) 218 dX12_text_216 (by decide) rfl rfl ?_
                              refine e_iload_n (i := 3) 219 dX12_text_218 rfl rfl rfl ?_
                              refine e_istore (lsn := [(5, _), (4, _), (3, _), (0, _), (1, _), (2, _)]) 221 dX12_text_219 (by decide) rfl rfl ?_
                              refine e_ls (ls2 := [(0, _), (1, _), (4, _), (5, _)]) rfl ?_
                              refine lt_copy (lo := 65) (hi := 582) (by omega) (fun W hW hA2 => ?_) 517 65 (by omega) (by omega) _ (fun _ _ => rfl) (fun i => by rw [if_neg (by omega)])
                              have hz0 : z.2.2.2.2.1 = 0 := by omega
                              have hA3 : ∀ i, W 929 i = if txLo what ≤ i ∧ i < txHi what then z.2.2.2.2.2.2.2.2.2 i else M 929 i := fun i => by
                                rw [hA2 i, show txLo what = 65 from if_neg (by omega), show txHi what = 582 from if_neg (by omega), row_k (by omega), row_k (by omega), row_k (by omega), row_k (by omega), put_ra, put_o (by omega) (by omega), hK 929 (by omega) (by omega)]
                              refine e_iload_n (i := 1) 249 dX12_text_248 rfl rfl rfl ?_
                              refine e_if_ne 252 262 dX12_text_249 (by omega) (by decide) rfl (fun b249 => ?_) (fun b249 => ?_)
                              · first
                                 | (exfalso; omega)
                                 | (skip
                                    refine e_aload_n (i := 0) 263 dX12_text_262 rfl rfl rfl ?_
                                    refine e_getr (j := 1) 266 fl_12_13 dX12_text_263 at_928 rfl rfl tp_928_1 rfl ?_
                                    refine e_bipush 268 dX12_text_266 (by decide) rfl ?_
                                    refine e_iald 269 dX12_text_268 ar_929 (by decide) (by decide) rfl (fun r268 => ?_)
                                    refine e_iret dX12_text_269 ?_
                                    have e9 := hA3 65
                                    rw [if_pos (by rw [show txLo what = 65 from if_neg (by omega), show txHi what = 582 from if_neg (by omega)]; omega)] at e9
                                    rw [e9]
                                    have ha : txAns what z = z.2.2.2.2.2.2.2.2.2 65 := by
                                      rw [txAns, if_neg (by omega), if_neg (by omega)]
                                    rw [← ha]
                                    exact h (by omega) W (tx_end hK f0 f5 (by rw [if_pos hz0]) hW (fun e => absurd hz0 e) (fun _ => hA3)))
                              · first
                                 | (exfalso; omega)
                                 | (skip
                                    refine e_aload_n (i := 0) 253 dX12_text_252 rfl rfl rfl ?_
                                    refine e_getr (j := 1) 256 fl_12_13 dX12_text_253 at_928 rfl rfl tp_928_1 rfl ?_
                                    refine e_bipush 258 dX12_text_256 (by decide) rfl ?_
                                    refine e_iald 259 dX12_text_258 ar_929 (by decide) (by decide) rfl (fun r258 => ?_)
                                    refine e_goto 269 dX12_text_259 (by decide) ?_
                                    refine e_iret dX12_text_269 ?_
                                    have e9 := hA3 65
                                    rw [if_pos (by rw [show txLo what = 65 from if_neg (by omega), show txHi what = 582 from if_neg (by omega)]; omega)] at e9
                                    rw [e9]
                                    have ha : txAns what z = z.2.2.2.2.2.2.2.2.2 65 := by
                                      rw [txAns, if_neg (by omega), if_neg (by omega)]
                                    rw [← ha]
                                    exact h (by omega) W (tx_end hK f0 f5 (by rw [if_pos hz0]) hW (fun e => absurd hz0 e) (fun _ => hA3))))
                        · first
                           | (exfalso; omega)
                           | (skip
                              refine e_bipush 210 dX12_text_208 (by decide) rfl ?_
                              refine e_goto 216 dX12_text_210 (by decide) ?_
                              refine e_istore (lsn := [(4, _), (3, _), (0, _), (1, _), (2, _)]) 218 dX12_text_216 (by decide) rfl rfl ?_
                              refine e_iload_n (i := 3) 219 dX12_text_218 rfl rfl rfl ?_
                              refine e_istore (lsn := [(5, _), (4, _), (3, _), (0, _), (1, _), (2, _)]) 221 dX12_text_219 (by decide) rfl rfl ?_
                              refine e_ls (ls2 := [(0, _), (1, _), (4, _), (5, _)]) rfl ?_
                              refine lt_copy (lo := 65) (hi := 582) (by omega) (fun W hW hA2 => ?_) 517 65 (by omega) (by omega) _ (fun _ _ => rfl) (fun i => by rw [if_neg (by omega)])
                              have hz0 : z.2.2.2.2.1 = 0 := by omega
                              have hA3 : ∀ i, W 929 i = if txLo what ≤ i ∧ i < txHi what then z.2.2.2.2.2.2.2.2.2 i else M 929 i := fun i => by
                                rw [hA2 i, show txLo what = 65 from if_neg (by omega), show txHi what = 582 from if_neg (by omega), row_k (by omega), row_k (by omega), row_k (by omega), row_k (by omega), put_ra, put_o (by omega) (by omega), hK 929 (by omega) (by omega)]
                              refine e_iload_n (i := 1) 249 dX12_text_248 rfl rfl rfl ?_
                              refine e_if_ne 252 262 dX12_text_249 (by omega) (by decide) rfl (fun b249 => ?_) (fun b249 => ?_)
                              · first
                                 | (exfalso; omega)
                                 | (skip
                                    refine e_aload_n (i := 0) 263 dX12_text_262 rfl rfl rfl ?_
                                    refine e_getr (j := 1) 266 fl_12_13 dX12_text_263 at_928 rfl rfl tp_928_1 rfl ?_
                                    refine e_bipush 268 dX12_text_266 (by decide) rfl ?_
                                    refine e_iald 269 dX12_text_268 ar_929 (by decide) (by decide) rfl (fun r268 => ?_)
                                    refine e_iret dX12_text_269 ?_
                                    have e9 := hA3 65
                                    rw [if_pos (by rw [show txLo what = 65 from if_neg (by omega), show txHi what = 582 from if_neg (by omega)]; omega)] at e9
                                    rw [e9]
                                    have ha : txAns what z = z.2.2.2.2.2.2.2.2.2 65 := by
                                      rw [txAns, if_neg (by omega), if_neg (by omega)]
                                    rw [← ha]
                                    exact h (by omega) W (tx_end hK f0 f5 (by rw [if_pos hz0]) hW (fun e => absurd hz0 e) (fun _ => hA3)))
                              · first
                                 | (exfalso; omega)
                                 | (skip
                                    refine e_aload_n (i := 0) 253 dX12_text_252 rfl rfl rfl ?_
                                    refine e_getr (j := 1) 256 fl_12_13 dX12_text_253 at_928 rfl rfl tp_928_1 rfl ?_
                                    refine e_bipush 258 dX12_text_256 (by decide) rfl ?_
                                    refine e_iald 259 dX12_text_258 ar_929 (by decide) (by decide) rfl (fun r258 => ?_)
                                    refine e_goto 269 dX12_text_259 (by decide) ?_
                                    refine e_iret dX12_text_269 ?_
                                    have e9 := hA3 65
                                    rw [if_pos (by rw [show txLo what = 65 from if_neg (by omega), show txHi what = 582 from if_neg (by omega)]; omega)] at e9
                                    rw [e9]
                                    have ha : txAns what z = z.2.2.2.2.2.2.2.2.2 65 := by
                                      rw [txAns, if_neg (by omega), if_neg (by omega)]
                                    rw [← ha]
                                    exact h (by omega) W (tx_end hK f0 f5 (by rw [if_pos hz0]) hW (fun e => absurd hz0 e) (fun _ => hA3)))))
                  · first
                     | (exfalso; omega)
                     | (skip
                        refine e_iconst 198 dX12_text_197 rfl ?_
                        refine e_goto 203 dX12_text_198 (by decide) ?_
                        refine e_istore_n (i := 3) (lsn := [(3, _), (0, _), (1, _), (2, _)]) 204 dX12_text_203 rfl (by decide) rfl rfl ?_
                        refine e_iload_n (i := 1) 205 dX12_text_204 rfl rfl rfl ?_
                        refine e_if_ne 208 213 dX12_text_205 (by omega) (by decide) rfl (fun b205 => ?_) (fun b205 => ?_)
                        · first
                           | (exfalso; omega)
                           | (skip
                              refine e_sipush 216 dX12_text_213 (by decide) rfl ?_
                              refine e_istore (lsn := [(4, _), (3, _), (0, _), (1, _), (2, _)]) 218 dX12_text_216 (by decide) rfl rfl ?_
                              refine e_iload_n (i := 3) 219 dX12_text_218 rfl rfl rfl ?_
                              refine e_istore (lsn := [(5, _), (4, _), (3, _), (0, _), (1, _), (2, _)]) 221 dX12_text_219 (by decide) rfl rfl ?_
                              refine e_ls (ls2 := [(0, _), (1, _), (4, _), (5, _)]) rfl ?_
                              refine lt_copy (lo := 0) (hi := 32) (by omega) (fun W hW hA2 => ?_) 32 0 (by omega) (by omega) _ (fun _ _ => rfl) (fun i => by rw [if_neg (by omega)])
                              have hz0 : z.2.2.2.2.1 = 0 := by omega
                              have hA3 : ∀ i, W 929 i = if txLo what ≤ i ∧ i < txHi what then z.2.2.2.2.2.2.2.2.2 i else M 929 i := fun i => by
                                rw [hA2 i, show txLo what = 0 from if_pos (by omega), show txHi what = 32 from if_pos (by omega), row_k (by omega), row_k (by omega), row_k (by omega), row_k (by omega), put_ra, put_o (by omega) (by omega), hK 929 (by omega) (by omega)]
                              refine e_iload_n (i := 1) 249 dX12_text_248 rfl rfl rfl ?_
                              refine e_if_ne 252 262 dX12_text_249 (by omega) (by decide) rfl (fun b249 => ?_) (fun b249 => ?_)
                              · first
                                 | (exfalso; omega)
                                 | (skip
                                    refine e_aload_n (i := 0) 263 dX12_text_262 rfl rfl rfl ?_
                                    refine e_getr (j := 1) 266 fl_12_13 dX12_text_263 at_928 rfl rfl tp_928_1 rfl ?_
                                    refine e_bipush 268 dX12_text_266 (by decide) rfl ?_
                                    refine e_iald 269 dX12_text_268 ar_929 (by decide) (by decide) rfl (fun r268 => ?_)
                                    refine e_iret dX12_text_269 ?_
                                    have e9 := hA3 31
                                    rw [if_pos (by rw [show txLo what = 0 from if_pos (by omega), show txHi what = 32 from if_pos (by omega)]; omega)] at e9
                                    rw [e9]
                                    have ha : txAns what z = z.2.2.2.2.2.2.2.2.2 31 := by
                                      rw [txAns, if_neg (by omega), if_pos (by omega)]
                                    rw [← ha]
                                    exact h (by omega) W (tx_end hK f0 f5 (by rw [if_pos hz0]) hW (fun e => absurd hz0 e) (fun _ => hA3)))
                              · first
                                 | (exfalso; omega)
                                 | (skip
                                    refine e_aload_n (i := 0) 253 dX12_text_252 rfl rfl rfl ?_
                                    refine e_getr (j := 1) 256 fl_12_13 dX12_text_253 at_928 rfl rfl tp_928_1 rfl ?_
                                    refine e_bipush 258 dX12_text_256 (by decide) rfl ?_
                                    refine e_iald 259 dX12_text_258 ar_929 (by decide) (by decide) rfl (fun r258 => ?_)
                                    refine e_goto 269 dX12_text_259 (by decide) ?_
                                    refine e_iret dX12_text_269 ?_
                                    have e9 := hA3 31
                                    rw [if_pos (by rw [show txLo what = 0 from if_pos (by omega), show txHi what = 32 from if_pos (by omega)]; omega)] at e9
                                    rw [e9]
                                    have ha : txAns what z = z.2.2.2.2.2.2.2.2.2 31 := by
                                      rw [txAns, if_neg (by omega), if_pos (by omega)]
                                    rw [← ha]
                                    exact h (by omega) W (tx_end hK f0 f5 (by rw [if_pos hz0]) hW (fun e => absurd hz0 e) (fun _ => hA3))))
                        · first
                           | (exfalso; omega)
                           | (skip
                              refine e_bipush 210 dX12_text_208 (by decide) rfl ?_
                              refine e_goto 216 dX12_text_210 (by decide) ?_
                              refine e_istore (lsn := [(4, _), (3, _), (0, _), (1, _), (2, _)]) 218 dX12_text_216 (by decide) rfl rfl ?_
                              refine e_iload_n (i := 3) 219 dX12_text_218 rfl rfl rfl ?_
                              refine e_istore (lsn := [(5, _), (4, _), (3, _), (0, _), (1, _), (2, _)]) 221 dX12_text_219 (by decide) rfl rfl ?_
                              refine e_ls (ls2 := [(0, _), (1, _), (4, _), (5, _)]) rfl ?_
                              refine lt_copy (lo := 0) (hi := 32) (by omega) (fun W hW hA2 => ?_) 32 0 (by omega) (by omega) _ (fun _ _ => rfl) (fun i => by rw [if_neg (by omega)])
                              have hz0 : z.2.2.2.2.1 = 0 := by omega
                              have hA3 : ∀ i, W 929 i = if txLo what ≤ i ∧ i < txHi what then z.2.2.2.2.2.2.2.2.2 i else M 929 i := fun i => by
                                rw [hA2 i, show txLo what = 0 from if_pos (by omega), show txHi what = 32 from if_pos (by omega), row_k (by omega), row_k (by omega), row_k (by omega), row_k (by omega), put_ra, put_o (by omega) (by omega), hK 929 (by omega) (by omega)]
                              refine e_iload_n (i := 1) 249 dX12_text_248 rfl rfl rfl ?_
                              refine e_if_ne 252 262 dX12_text_249 (by omega) (by decide) rfl (fun b249 => ?_) (fun b249 => ?_)
                              · first
                                 | (exfalso; omega)
                                 | (skip
                                    refine e_aload_n (i := 0) 263 dX12_text_262 rfl rfl rfl ?_
                                    refine e_getr (j := 1) 266 fl_12_13 dX12_text_263 at_928 rfl rfl tp_928_1 rfl ?_
                                    refine e_bipush 268 dX12_text_266 (by decide) rfl ?_
                                    refine e_iald 269 dX12_text_268 ar_929 (by decide) (by decide) rfl (fun r268 => ?_)
                                    refine e_iret dX12_text_269 ?_
                                    have e9 := hA3 31
                                    rw [if_pos (by rw [show txLo what = 0 from if_pos (by omega), show txHi what = 32 from if_pos (by omega)]; omega)] at e9
                                    rw [e9]
                                    have ha : txAns what z = z.2.2.2.2.2.2.2.2.2 31 := by
                                      rw [txAns, if_neg (by omega), if_pos (by omega)]
                                    rw [← ha]
                                    exact h (by omega) W (tx_end hK f0 f5 (by rw [if_pos hz0]) hW (fun e => absurd hz0 e) (fun _ => hA3)))
                              · first
                                 | (exfalso; omega)
                                 | (skip
                                    refine e_aload_n (i := 0) 253 dX12_text_252 rfl rfl rfl ?_
                                    refine e_getr (j := 1) 256 fl_12_13 dX12_text_253 at_928 rfl rfl tp_928_1 rfl ?_
                                    refine e_bipush 258 dX12_text_256 (by decide) rfl ?_
                                    refine e_iald 259 dX12_text_258 ar_929 (by decide) (by decide) rfl (fun r258 => ?_)
                                    refine e_goto 269 dX12_text_259 (by decide) ?_
                                    refine e_iret dX12_text_269 ?_
                                    have e9 := hA3 31
                                    rw [if_pos (by rw [show txLo what = 0 from if_pos (by omega), show txHi what = 32 from if_pos (by omega)]; omega)] at e9
                                    rw [e9]
                                    have ha : txAns what z = z.2.2.2.2.2.2.2.2.2 31 := by
                                      rw [txAns, if_neg (by omega), if_pos (by omega)]
                                    rw [← ha]
                                    exact h (by omega) W (tx_end hK f0 f5 (by rw [if_pos hz0]) hW (fun e => absurd hz0 e) (fun _ => hA3))))))
            · first
               | (exfalso; omega)
               | (skip
                  refine e_bipush 187 dX12_text_185 (by decide) rfl ?_
                  refine e_aload_n (i := 0) 188 dX12_text_187 rfl rfl rfl ?_
                  refine e_geti (j := 11) 191 fl_12_123 dX12_text_188 at_928 (by decide) rfl rfl (fun r188 => ?_)
                  simp (disch := omega) only [jset_k, jset_j, jset_same, true_and, and_true, put_r6, put_w6, put_r7, put_w7, put_r9, put_w9, put_r10, put_w10, put_r11, put_w11, put_r12, put_w12, put_r13, put_w13, put_r14, put_w14, put_r15, put_w15, put_ra, put_r8, put_r0, put_rt, put_wa, u1, u2, hn8, hn8] at r188 ⊢
                  refine e_isub 192 dX12_text_191 rfl ?_
                  refine e_iret dX12_text_192 ?_
                  first
                    | (exfalso; omega)
                    | (have ha : txAns what z = -10 - z.2.2.2.2.1 := if_pos (by omega)
                       rw [← ha]
                       refine h (by omega) _ (tx_end hK f0 f5 (by rw [if_neg (by omega)]) (fun _ _ => rfl) (fun _ => ?_) (fun e => absurd e (by omega)))
                       rw [row_k (by omega), row_k (by omega), put_o (by omega) (by omega)]
                       exact hK 929 (by omega) (by omega))))
      · first
         | (exfalso; omega)
         | (skip
            refine e_iconst 168 dX12_text_167 rfl ?_
            refine e_goto 175 dX12_text_168 (by decide) ?_
            refine e_puti (j := 17) 178 fl_12_27 dX12_text_175 at_928 rfl rfl rfl (by decide) rfl ?_
            refine e_aload_n (i := 0) 179 dX12_text_178 rfl rfl rfl ?_
            refine e_geti (j := 11) 182 fl_12_123 dX12_text_179 at_928 (by decide) rfl rfl (fun r179 => ?_)
            simp (disch := omega) only [jset_k, jset_j, jset_same, true_and, and_true, put_r6, put_w6, put_r7, put_w7, put_r9, put_w9, put_r10, put_w10, put_r11, put_w11, put_r12, put_w12, put_r13, put_w13, put_r14, put_w14, put_r15, put_w15, put_ra, put_r8, put_r0, put_rt, put_wa, u1, u2, hn8, hn8] at r179 ⊢
            refine e_if_eq 185 193 dX12_text_182 (by omega) (by decide) rfl (fun b182 => ?_) (fun b182 => ?_)
            · first
               | (exfalso; omega)
               | (skip
                  refine e_iload_n (i := 1) 194 dX12_text_193 rfl rfl rfl ?_
                  refine e_if_ne 197 201 dX12_text_194 (by omega) (by decide) rfl (fun b194 => ?_) (fun b194 => ?_)
                  · first
                     | (exfalso; omega)
                     | (skip
                        refine e_bipush 203 dX12_text_201 (by decide) rfl ?_
                        refine e_istore_n (i := 3) (lsn := [(3, _), (0, _), (1, _), (2, _)]) 204 dX12_text_203 rfl (by decide) rfl rfl ?_
                        refine e_iload_n (i := 1) 205 dX12_text_204 rfl rfl rfl ?_
                        refine e_if_ne 208 213 dX12_text_205 (by omega) (by decide) rfl (fun b205 => ?_) (fun b205 => ?_)
                        · first
                           | (exfalso; omega)
                           | (skip
                              refine e_sipush 216 dX12_text_213 (by decide) rfl ?_
                              refine e_istore (lsn := [(4, _), (3, _), (0, _), (1, _), (2, _)]) 218 dX12_text_216 (by decide) rfl rfl ?_
                              refine e_iload_n (i := 3) 219 dX12_text_218 rfl rfl rfl ?_
                              refine e_istore (lsn := [(5, _), (4, _), (3, _), (0, _), (1, _), (2, _)]) 221 dX12_text_219 (by decide) rfl rfl ?_
                              refine e_ls (ls2 := [(0, _), (1, _), (4, _), (5, _)]) rfl ?_
                              refine lt_copy (lo := 65) (hi := 582) (by omega) (fun W hW hA2 => ?_) 517 65 (by omega) (by omega) _ (fun _ _ => rfl) (fun i => by rw [if_neg (by omega)])
                              have hz0 : z.2.2.2.2.1 = 0 := by omega
                              have hA3 : ∀ i, W 929 i = if txLo what ≤ i ∧ i < txHi what then z.2.2.2.2.2.2.2.2.2 i else M 929 i := fun i => by
                                rw [hA2 i, show txLo what = 65 from if_neg (by omega), show txHi what = 582 from if_neg (by omega), row_k (by omega), row_k (by omega), row_k (by omega), row_k (by omega), put_ra, put_o (by omega) (by omega), hK 929 (by omega) (by omega)]
                              refine e_iload_n (i := 1) 249 dX12_text_248 rfl rfl rfl ?_
                              refine e_if_ne 252 262 dX12_text_249 (by omega) (by decide) rfl (fun b249 => ?_) (fun b249 => ?_)
                              · first
                                 | (exfalso; omega)
                                 | (skip
                                    refine e_aload_n (i := 0) 263 dX12_text_262 rfl rfl rfl ?_
                                    refine e_getr (j := 1) 266 fl_12_13 dX12_text_263 at_928 rfl rfl tp_928_1 rfl ?_
                                    refine e_bipush 268 dX12_text_266 (by decide) rfl ?_
                                    refine e_iald 269 dX12_text_268 ar_929 (by decide) (by decide) rfl (fun r268 => ?_)
                                    refine e_iret dX12_text_269 ?_
                                    have e9 := hA3 65
                                    rw [if_pos (by rw [show txLo what = 65 from if_neg (by omega), show txHi what = 582 from if_neg (by omega)]; omega)] at e9
                                    rw [e9]
                                    have ha : txAns what z = z.2.2.2.2.2.2.2.2.2 65 := by
                                      rw [txAns, if_neg (by omega), if_neg (by omega)]
                                    rw [← ha]
                                    exact h (by omega) W (tx_end hK f0 f5 (by rw [if_pos hz0]) hW (fun e => absurd hz0 e) (fun _ => hA3)))
                              · first
                                 | (exfalso; omega)
                                 | (skip
                                    refine e_aload_n (i := 0) 253 dX12_text_252 rfl rfl rfl ?_
                                    refine e_getr (j := 1) 256 fl_12_13 dX12_text_253 at_928 rfl rfl tp_928_1 rfl ?_
                                    refine e_bipush 258 dX12_text_256 (by decide) rfl ?_
                                    refine e_iald 259 dX12_text_258 ar_929 (by decide) (by decide) rfl (fun r258 => ?_)
                                    refine e_goto 269 dX12_text_259 (by decide) ?_
                                    refine e_iret dX12_text_269 ?_
                                    have e9 := hA3 65
                                    rw [if_pos (by rw [show txLo what = 65 from if_neg (by omega), show txHi what = 582 from if_neg (by omega)]; omega)] at e9
                                    rw [e9]
                                    have ha : txAns what z = z.2.2.2.2.2.2.2.2.2 65 := by
                                      rw [txAns, if_neg (by omega), if_neg (by omega)]
                                    rw [← ha]
                                    exact h (by omega) W (tx_end hK f0 f5 (by rw [if_pos hz0]) hW (fun e => absurd hz0 e) (fun _ => hA3))))
                        · first
                           | (exfalso; omega)
                           | (skip
                              refine e_bipush 210 dX12_text_208 (by decide) rfl ?_
                              refine e_goto 216 dX12_text_210 (by decide) ?_
                              refine e_istore (lsn := [(4, _), (3, _), (0, _), (1, _), (2, _)]) 218 dX12_text_216 (by decide) rfl rfl ?_
                              refine e_iload_n (i := 3) 219 dX12_text_218 rfl rfl rfl ?_
                              refine e_istore (lsn := [(5, _), (4, _), (3, _), (0, _), (1, _), (2, _)]) 221 dX12_text_219 (by decide) rfl rfl ?_
                              refine e_ls (ls2 := [(0, _), (1, _), (4, _), (5, _)]) rfl ?_
                              refine lt_copy (lo := 65) (hi := 582) (by omega) (fun W hW hA2 => ?_) 517 65 (by omega) (by omega) _ (fun _ _ => rfl) (fun i => by rw [if_neg (by omega)])
                              have hz0 : z.2.2.2.2.1 = 0 := by omega
                              have hA3 : ∀ i, W 929 i = if txLo what ≤ i ∧ i < txHi what then z.2.2.2.2.2.2.2.2.2 i else M 929 i := fun i => by
                                rw [hA2 i, show txLo what = 65 from if_neg (by omega), show txHi what = 582 from if_neg (by omega), row_k (by omega), row_k (by omega), row_k (by omega), row_k (by omega), put_ra, put_o (by omega) (by omega), hK 929 (by omega) (by omega)]
                              refine e_iload_n (i := 1) 249 dX12_text_248 rfl rfl rfl ?_
                              refine e_if_ne 252 262 dX12_text_249 (by omega) (by decide) rfl (fun b249 => ?_) (fun b249 => ?_)
                              · first
                                 | (exfalso; omega)
                                 | (skip
                                    refine e_aload_n (i := 0) 263 dX12_text_262 rfl rfl rfl ?_
                                    refine e_getr (j := 1) 266 fl_12_13 dX12_text_263 at_928 rfl rfl tp_928_1 rfl ?_
                                    refine e_bipush 268 dX12_text_266 (by decide) rfl ?_
                                    refine e_iald 269 dX12_text_268 ar_929 (by decide) (by decide) rfl (fun r268 => ?_)
                                    refine e_iret dX12_text_269 ?_
                                    have e9 := hA3 65
                                    rw [if_pos (by rw [show txLo what = 65 from if_neg (by omega), show txHi what = 582 from if_neg (by omega)]; omega)] at e9
                                    rw [e9]
                                    have ha : txAns what z = z.2.2.2.2.2.2.2.2.2 65 := by
                                      rw [txAns, if_neg (by omega), if_neg (by omega)]
                                    rw [← ha]
                                    exact h (by omega) W (tx_end hK f0 f5 (by rw [if_pos hz0]) hW (fun e => absurd hz0 e) (fun _ => hA3)))
                              · first
                                 | (exfalso; omega)
                                 | (skip
                                    refine e_aload_n (i := 0) 253 dX12_text_252 rfl rfl rfl ?_
                                    refine e_getr (j := 1) 256 fl_12_13 dX12_text_253 at_928 rfl rfl tp_928_1 rfl ?_
                                    refine e_bipush 258 dX12_text_256 (by decide) rfl ?_
                                    refine e_iald 259 dX12_text_258 ar_929 (by decide) (by decide) rfl (fun r258 => ?_)
                                    refine e_goto 269 dX12_text_259 (by decide) ?_
                                    refine e_iret dX12_text_269 ?_
                                    have e9 := hA3 65
                                    rw [if_pos (by rw [show txLo what = 65 from if_neg (by omega), show txHi what = 582 from if_neg (by omega)]; omega)] at e9
                                    rw [e9]
                                    have ha : txAns what z = z.2.2.2.2.2.2.2.2.2 65 := by
                                      rw [txAns, if_neg (by omega), if_neg (by omega)]
                                    rw [← ha]
                                    exact h (by omega) W (tx_end hK f0 f5 (by rw [if_pos hz0]) hW (fun e => absurd hz0 e) (fun _ => hA3)))))
                  · first
                     | (exfalso; omega)
                     | (skip
                        refine e_iconst 198 dX12_text_197 rfl ?_
                        refine e_goto 203 dX12_text_198 (by decide) ?_
                        refine e_istore_n (i := 3) (lsn := [(3, _), (0, _), (1, _), (2, _)]) 204 dX12_text_203 rfl (by decide) rfl rfl ?_
                        refine e_iload_n (i := 1) 205 dX12_text_204 rfl rfl rfl ?_
                        refine e_if_ne 208 213 dX12_text_205 (by omega) (by decide) rfl (fun b205 => ?_) (fun b205 => ?_)
                        · first
                           | (exfalso; omega)
                           | (skip
                              refine e_sipush 216 dX12_text_213 (by decide) rfl ?_
                              refine e_istore (lsn := [(4, _), (3, _), (0, _), (1, _), (2, _)]) 218 dX12_text_216 (by decide) rfl rfl ?_
                              refine e_iload_n (i := 3) 219 dX12_text_218 rfl rfl rfl ?_
                              refine e_istore (lsn := [(5, _), (4, _), (3, _), (0, _), (1, _), (2, _)]) 221 dX12_text_219 (by decide) rfl rfl ?_
                              refine e_ls (ls2 := [(0, _), (1, _), (4, _), (5, _)]) rfl ?_
                              refine lt_copy (lo := 0) (hi := 32) (by omega) (fun W hW hA2 => ?_) 32 0 (by omega) (by omega) _ (fun _ _ => rfl) (fun i => by rw [if_neg (by omega)])
                              have hz0 : z.2.2.2.2.1 = 0 := by omega
                              have hA3 : ∀ i, W 929 i = if txLo what ≤ i ∧ i < txHi what then z.2.2.2.2.2.2.2.2.2 i else M 929 i := fun i => by
                                rw [hA2 i, show txLo what = 0 from if_pos (by omega), show txHi what = 32 from if_pos (by omega), row_k (by omega), row_k (by omega), row_k (by omega), row_k (by omega), put_ra, put_o (by omega) (by omega), hK 929 (by omega) (by omega)]
                              refine e_iload_n (i := 1) 249 dX12_text_248 rfl rfl rfl ?_
                              refine e_if_ne 252 262 dX12_text_249 (by omega) (by decide) rfl (fun b249 => ?_) (fun b249 => ?_)
                              · first
                                 | (exfalso; omega)
                                 | (skip
                                    refine e_aload_n (i := 0) 263 dX12_text_262 rfl rfl rfl ?_
                                    refine e_getr (j := 1) 266 fl_12_13 dX12_text_263 at_928 rfl rfl tp_928_1 rfl ?_
                                    refine e_bipush 268 dX12_text_266 (by decide) rfl ?_
                                    refine e_iald 269 dX12_text_268 ar_929 (by decide) (by decide) rfl (fun r268 => ?_)
                                    refine e_iret dX12_text_269 ?_
                                    have e9 := hA3 31
                                    rw [if_pos (by rw [show txLo what = 0 from if_pos (by omega), show txHi what = 32 from if_pos (by omega)]; omega)] at e9
                                    rw [e9]
                                    have ha : txAns what z = z.2.2.2.2.2.2.2.2.2 31 := by
                                      rw [txAns, if_neg (by omega), if_pos (by omega)]
                                    rw [← ha]
                                    exact h (by omega) W (tx_end hK f0 f5 (by rw [if_pos hz0]) hW (fun e => absurd hz0 e) (fun _ => hA3)))
                              · first
                                 | (exfalso; omega)
                                 | (skip
                                    refine e_aload_n (i := 0) 253 dX12_text_252 rfl rfl rfl ?_
                                    refine e_getr (j := 1) 256 fl_12_13 dX12_text_253 at_928 rfl rfl tp_928_1 rfl ?_
                                    refine e_bipush 258 dX12_text_256 (by decide) rfl ?_
                                    refine e_iald 259 dX12_text_258 ar_929 (by decide) (by decide) rfl (fun r258 => ?_)
                                    refine e_goto 269 dX12_text_259 (by decide) ?_
                                    refine e_iret dX12_text_269 ?_
                                    have e9 := hA3 31
                                    rw [if_pos (by rw [show txLo what = 0 from if_pos (by omega), show txHi what = 32 from if_pos (by omega)]; omega)] at e9
                                    rw [e9]
                                    have ha : txAns what z = z.2.2.2.2.2.2.2.2.2 31 := by
                                      rw [txAns, if_neg (by omega), if_pos (by omega)]
                                    rw [← ha]
                                    exact h (by omega) W (tx_end hK f0 f5 (by rw [if_pos hz0]) hW (fun e => absurd hz0 e) (fun _ => hA3))))
                        · first
                           | (exfalso; omega)
                           | (skip
                              refine e_bipush 210 dX12_text_208 (by decide) rfl ?_
                              refine e_goto 216 dX12_text_210 (by decide) ?_
                              refine e_istore (lsn := [(4, _), (3, _), (0, _), (1, _), (2, _)]) 218 dX12_text_216 (by decide) rfl rfl ?_
                              refine e_iload_n (i := 3) 219 dX12_text_218 rfl rfl rfl ?_
                              refine e_istore (lsn := [(5, _), (4, _), (3, _), (0, _), (1, _), (2, _)]) 221 dX12_text_219 (by decide) rfl rfl ?_
                              refine e_ls (ls2 := [(0, _), (1, _), (4, _), (5, _)]) rfl ?_
                              refine lt_copy (lo := 0) (hi := 32) (by omega) (fun W hW hA2 => ?_) 32 0 (by omega) (by omega) _ (fun _ _ => rfl) (fun i => by rw [if_neg (by omega)])
                              have hz0 : z.2.2.2.2.1 = 0 := by omega
                              have hA3 : ∀ i, W 929 i = if txLo what ≤ i ∧ i < txHi what then z.2.2.2.2.2.2.2.2.2 i else M 929 i := fun i => by
                                rw [hA2 i, show txLo what = 0 from if_pos (by omega), show txHi what = 32 from if_pos (by omega), row_k (by omega), row_k (by omega), row_k (by omega), row_k (by omega), put_ra, put_o (by omega) (by omega), hK 929 (by omega) (by omega)]
                              refine e_iload_n (i := 1) 249 dX12_text_248 rfl rfl rfl ?_
                              refine e_if_ne 252 262 dX12_text_249 (by omega) (by decide) rfl (fun b249 => ?_) (fun b249 => ?_)
                              · first
                                 | (exfalso; omega)
                                 | (skip
                                    refine e_aload_n (i := 0) 263 dX12_text_262 rfl rfl rfl ?_
                                    refine e_getr (j := 1) 266 fl_12_13 dX12_text_263 at_928 rfl rfl tp_928_1 rfl ?_
                                    refine e_bipush 268 dX12_text_266 (by decide) rfl ?_
                                    refine e_iald 269 dX12_text_268 ar_929 (by decide) (by decide) rfl (fun r268 => ?_)
                                    refine e_iret dX12_text_269 ?_
                                    have e9 := hA3 31
                                    rw [if_pos (by rw [show txLo what = 0 from if_pos (by omega), show txHi what = 32 from if_pos (by omega)]; omega)] at e9
                                    rw [e9]
                                    have ha : txAns what z = z.2.2.2.2.2.2.2.2.2 31 := by
                                      rw [txAns, if_neg (by omega), if_pos (by omega)]
                                    rw [← ha]
                                    exact h (by omega) W (tx_end hK f0 f5 (by rw [if_pos hz0]) hW (fun e => absurd hz0 e) (fun _ => hA3)))
                              · first
                                 | (exfalso; omega)
                                 | (skip
                                    refine e_aload_n (i := 0) 253 dX12_text_252 rfl rfl rfl ?_
                                    refine e_getr (j := 1) 256 fl_12_13 dX12_text_253 at_928 rfl rfl tp_928_1 rfl ?_
                                    refine e_bipush 258 dX12_text_256 (by decide) rfl ?_
                                    refine e_iald 259 dX12_text_258 ar_929 (by decide) (by decide) rfl (fun r258 => ?_)
                                    refine e_goto 269 dX12_text_259 (by decide) ?_
                                    refine e_iret dX12_text_269 ?_
                                    have e9 := hA3 31
                                    rw [if_pos (by rw [show txLo what = 0 from if_pos (by omega), show txHi what = 32 from if_pos (by omega)]; omega)] at e9
                                    rw [e9]
                                    have ha : txAns what z = z.2.2.2.2.2.2.2.2.2 31 := by
                                      rw [txAns, if_neg (by omega), if_pos (by omega)]
                                    rw [← ha]
                                    exact h (by omega) W (tx_end hK f0 f5 (by rw [if_pos hz0]) hW (fun e => absurd hz0 e) (fun _ => hA3))))))
            · first
               | (exfalso; omega)
               | (skip
                  refine e_bipush 187 dX12_text_185 (by decide) rfl ?_
                  refine e_aload_n (i := 0) 188 dX12_text_187 rfl rfl rfl ?_
                  refine e_geti (j := 11) 191 fl_12_123 dX12_text_188 at_928 (by decide) rfl rfl (fun r188 => ?_)
                  simp (disch := omega) only [jset_k, jset_j, jset_same, true_and, and_true, put_r6, put_w6, put_r7, put_w7, put_r9, put_w9, put_r10, put_w10, put_r11, put_w11, put_r12, put_w12, put_r13, put_w13, put_r14, put_w14, put_r15, put_w15, put_ra, put_r8, put_r0, put_rt, put_wa, u1, u2, hn8, hn8] at r188 ⊢
                  refine e_isub 192 dX12_text_191 rfl ?_
                  refine e_iret dX12_text_192 ?_
                  first
                    | (exfalso; omega)
                    | (have ha : txAns what z = -10 - z.2.2.2.2.1 := if_pos (by omega)
                       rw [← ha]
                       refine h (by omega) _ (tx_end hK f0 f5 (by rw [if_neg (by omega)]) (fun _ _ => rfl) (fun _ => ?_) (fun e => absurd e (by omega)))
                       rw [row_k (by omega), row_k (by omega), put_o (by omega) (by omega)]
                       exact hK 929 (by omega) (by omega))))
    · dsimp only [jpush]
      refine e_if_ne 32 35 dX12_text_29 (by decide) (by decide) rfl (fun h => absurd h (by decide)) (fun _ => ?_)
      refine e_bipush 34 dX12_text_32 (by decide) rfl ?_
      refine e_iret dX12_text_34 ?_
      exact h3 (by omega)
  · dsimp only [jpush]
    refine e_if_ne 15 18 dX12_text_12 (by decide) (by decide) rfl (fun h => absurd h (by decide)) (fun _ => ?_)
    refine e_bipush 17 dX12_text_15 (by decide) rfl ?_
    refine e_iret dX12_text_17 ?_
    exact h2 (by omega)

