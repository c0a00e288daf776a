/-! TEXTS *** the class: the law, whole -/
def tx1 (M : jM) : PS := (0, 0, 25, M 928 10, 0, M 928 12, 0, 0, 0, txA M)
theorem tx1_n {M : jM} {n : Int} : pNext (M 931) n (tx1 M) = pNext (M 931) n (tx0 M) := rfl
theorem pi_tx1 {M : jM} {n : Int} (hM : CM M n) (hv : -2147483648 ≤ M 928 10 ∧ M 928 10 ≤ 2147483647) : PI n (tx1 M) := by
  have f0 : txA M 0 = 0 := rfl
  have f65 : txA M 65 = 0 := rfl
  have f31 : txA M 31 = 0 := rfl
  refine ⟨?_, ?_, hv, ⟨Int.le_refl 0, (by decide : (0 : Int) ≤ 5)⟩, ⟨Int.le_refl 0, (by decide : (2 : Int) * 0 ≤ 0)⟩, ⟨Int.le_refl 0, (by decide : (0 : Int) ≤ 8)⟩, ⟨by show 0 ≤ txA M 0; rw [f0]; decide, by show txA M 0 ≤ 8; rw [f0]; decide⟩, ⟨by show 0 ≤ txA M 65; rw [f65]; decide, by show txA M 65 ≤ 8; rw [f65]; decide⟩, fun i a b => ?_, ?_⟩
  · show 0 ≤ (0 : Int) ∧ (0 : Int) ≤ 0 ∧ 0 ≤ n
    have := hM.1
    omega
  · show 0 ≤ (25 : Int) ∧ (25 : Int) ≤ 26 ∧ ((25 : Int) ≤ 19 → (0 : Int) + 2 ≤ 0) ∧ ((25 : Int) ≠ 25 → (0 : Int) < 0)
    omega
  · have b : i < txA M 0 := b
    rw [f0] at b
    omega
  · show 0 ≤ txA M 31 ∧ ((0 : Int) = 0 → txA M 31 ≤ 0) ∧ txA M 31 ≤ (0 : Int) + 1
    rw [f31]
    omega
theorem c_tbegin {M Z : jM} {n : Int} {Q : Int → jM → Prop} (hM : CM M n) (hv : -2147483648 ≤ M 928 10 ∧ M 928 10 ≤ 2147483647) (h84 : Z 884 = M 884) (hf : n ≤ Z 883 1 ∧ Z 883 1 ≤ 400) (h : ∀ W : jM, (∀ k, k ≠ 883 → W k = Z k) → W 883 1 = 0 → W 883 2 = n → TR W (M 931) (pNext (M 931) n (tx1 M)) → Q 0 W) : jCt yX9_begin cX9_begin 2 none 2 [jR 883, jI n] Z Q := by
  refine jCt_of mt_yX9_begin (Nat.le_of_ble_eq_true rfl) (fun X => ?_)
  have hn0 := hM.1
  refine e_aload_n (i := 0) 1 dX9_begin_0 rfl rfl rfl ?_
  refine e_iload_n (i := 1) 2 dX9_begin_1 rfl rfl rfl ?_
  refine e_aload_n (i := 0) 3 dX9_begin_2 rfl rfl rfl ?_
  refine e_geti (j := 1) 6 fl_9_15 dX9_begin_3 at_883 (by decide) rfl rfl (fun r3 => ?_)
  refine e_minI 9 wd_546 dX9_begin_6 (by omega) (by omega) (Nat.le_of_ble_eq_true rfl) (jroom (by decide)) rfl ?_
  rw [show min n (Z 883 1) = n by omega]
  refine e_puti (j := 2) 12 fl_9_25 dX9_begin_9 at_883 rfl rfl rfl (by omega) rfl ?_
  refine e_aload_n (i := 0) 13 dX9_begin_12 rfl rfl rfl ?_
  refine e_iconst 14 dX9_begin_13 rfl ?_
  refine e_puti (j := 1) 17 fl_9_15 dX9_begin_14 at_883 rfl rfl rfl (by decide) rfl ?_
  refine e_aload_n (i := 0) 18 dX9_begin_17 rfl rfl rfl ?_
  refine e_iconst 19 dX9_begin_18 rfl ?_
  refine e_puti (j := 3) 22 fl_9_28 dX9_begin_19 at_883 rfl rfl rfl (by decide) rfl ?_
  obtain ⟨Y, hY⟩ : ∃ Y, Y = jset (jset (jset Z 883 2 n) 883 1 0) 883 3 0 := ⟨_, rfl⟩
  rw [← hY]
  have y3 : Y 883 3 = 0 := by
    rw [hY]
    simp (disch := omega) only [jset_k, jset_j, jset_same, true_and, and_true]
  have y1 : Y 883 1 = 0 := by
    rw [hY]
    simp (disch := omega) only [jset_k, jset_j, jset_same, true_and, and_true]
  have y2 : Y 883 2 = n := by
    rw [hY]
    simp (disch := omega) only [jset_k, jset_j, jset_same, true_and, and_true]
  have yo : ∀ k, k ≠ 883 → Y k = Z k := fun k hk => by rw [hY, row_k hk, row_k hk, row_k hk]
  have hCB : CB Y (M 931) n := ⟨y2, hM.1, fun i a b => by
    rw [yo 884 (by omega), h84]
    exact hM.2 i a b⟩
  have hp : putT Y (Y 883 5, 0, Y 883 4, Y 883 6) = Y := by
    have e := pt_self (Z := Y)
    rw [y3] at e
    exact e
  rw [← hp]
  refine e_aload_n (i := 0) 23 dX9_begin_22 rfl rfl rfl ?_
  refine e_callV 26 mt_yX9_step mv_yX9_step wd_549 (by decide) dX9_begin_23 at_883 jc_9 rfl rfl rfl (Nat.le_of_ble_eq_true rfl) (jroom (by decide)) rfl (c_step0 (t := M 931) hCB (show 0 ≤ (0 : Int) ∧ (0 : Int) ≤ n by omega) ?_)
  dsimp only [jpush]
  refine e_vret dX9_begin_26 ?_
  refine h _ (fun k hk => by rw [pt_o hk, yo k hk]) ?_ ?_ (ts_next hM (pi_tx1 hM hv))
  · rw [pt_r1]
    exact y1
  · rw [pt_r2]
    exact y2

theorem c_rbegin {M : jM} {n : Int} {Q : Int → jM → Prop} (hM : CM M n) (hv : -2147483648 ≤ M 928 10 ∧ M 928 10 ≤ 2147483647) (hf : n ≤ M 883 1 ∧ M 883 1 ≤ 400) (h91 : M 891 0 = 0) (h : ∀ W : jM, CTk M W n (pNext (M 931) n (tx1 M)) → W 882 3 = M 882 3 → (∀ k, 885 ≤ k → W k = M k) → Q 0 W) : jCt yX6_begin cX6_begin 2 none 3 [jR 882, jI n] M Q := by
  refine jCt_of mt_yX6_begin (Nat.le_of_ble_eq_true rfl) (fun X => ?_)
  have hn0 := hM.1
  refine e_aload_n (i := 0) 1 dX6_begin_0 rfl rfl rfl ?_
  refine e_iconst 2 dX6_begin_1 rfl ?_
  refine e_puti (j := 4) 5 fl_6_36 dX6_begin_2 at_882 rfl rfl rfl (by decide) rfl ?_
  refine e_aload_n (i := 0) 6 dX6_begin_5 rfl rfl rfl ?_
  refine e_iconst 7 dX6_begin_6 rfl ?_
  refine e_puti (j := 5) 10 fl_6_39 dX6_begin_7 at_882 rfl rfl rfl (by decide) rfl ?_
  refine e_aload_n (i := 0) 11 dX6_begin_10 rfl rfl rfl ?_
  refine e_getr (j := 0) 14 fl_6_12 dX6_begin_11 at_882 rfl rfl tp_882_0 rfl ?_
  refine e_iload_n (i := 1) 15 dX6_begin_14 rfl rfl rfl ?_
  refine e_callV 18 mt_yX9_begin mv_yX9_begin wd_542 (by decide) dX6_begin_15 at_883 jc_9 rfl rfl rfl (Nat.le_of_ble_eq_true rfl) (jroom (by decide)) rfl (c_tbegin hM hv (by rw [row_k (by omega), row_k (by omega)]) (by rw [jset_k (by omega), jset_k (by omega)]; exact hf) (fun W15 hO15 h115 h215 hT15 => ?_))
  dsimp only [jpush]
  refine e_vret dX6_begin_18 ?_
  refine h W15 ⟨fun k hk => ?_, ⟨h115, by rw [hO15 891 (by omega), row_k (by omega), row_k (by omega)]; exact h91⟩, h215, hT15, ?_, ?_⟩ ?_ (fun k hk => ?_)
  · rw [hO15 k (by omega), row_k (by omega), row_k (by omega)]
  · rw [hO15 882 (by omega), jset_j (by omega), jset_same]
    rfl
  · rw [hO15 882 (by omega), jset_same]
    rfl
  · rw [hO15 882 (by omega), jset_j (by omega), jset_j (by omega)]
  · rw [hO15 k (by omega), row_k (by omega), row_k (by omega)]

theorem c_clear {M Z : jM} {Q : Int → jM → Prop} (h : ∀ W : jM, (∀ k, k ≠ 885 → k ≠ 889 → W k = Z k) → W 885 0 = 0 → W 885 5 = 0 → (∀ i : Int, 0 ≤ i → i < 6 → W 889 i = txA M (25 + i)) → Q 0 W) : jCt yX1_clear cX1_clear 2 none 1 [jR 885] Z Q := by
  refine jCt_of mt_yX1_clear (Nat.le_of_ble_eq_true rfl) (fun X => ?_)
  refine e_aload_n (i := 0) 1 dX1_clear_0 rfl rfl rfl ?_
  refine e_iconst 2 dX1_clear_1 rfl ?_
  refine e_puti (j := 0) 5 fl_1_27 dX1_clear_2 at_885 rfl rfl rfl (by decide) rfl ?_
  refine e_aload_n (i := 0) 6 dX1_clear_5 rfl rfl rfl ?_
  refine e_iconst 7 dX1_clear_6 rfl ?_
  refine e_puti (j := 5) 10 fl_1_31 dX1_clear_7 at_885 rfl rfl rfl (by decide) rfl ?_
  refine e_iconst 11 dX1_clear_10 rfl ?_
  refine e_istore_n (i := 1) (lsn := [(1, _), (0, _)]) 12 dX1_clear_11 rfl (by decide) rfl rfl ?_
  refine e_iload_n (i := 1) 13 dX1_clear_12 rfl rfl rfl ?_
  refine e_bipush 15 dX1_clear_13 (by decide) rfl ?_
  refine e_icmp_ge 18 35 dX1_clear_15 (by decide) (by decide) (by decide) rfl (fun h => absurd h (by decide)) (fun _ => ?_)
  refine e_aload_n (i := 0) 19 dX1_clear_18 rfl rfl rfl ?_
  refine e_getr (j := 4) 22 fl_1_21 dX1_clear_19 at_885 rfl rfl tp_885_4 rfl ?_
  refine e_iload_n (i := 1) 23 dX1_clear_22 rfl rfl rfl ?_
  refine e_getsN 26 (i := 0) (by decide) (by decide +kernel) dX1_clear_23 rfl ?_
  refine e_iload_n (i := 1) 27 dX1_clear_26 rfl rfl rfl ?_
  refine e_tald 28 (i := 0) (by decide) dX1_clear_27 (by decide) (by decide) rfl ?_
  refine e_iast 29 dX1_clear_28 ar_889 (by decide) (by decide) (by decide) rfl ?_
  refine e_iinc (lsn := [(1, _), (0, _)]) 32 dX1_clear_29 rfl (by decide) rfl rfl ?_
  refine e_goto 12 dX1_clear_32 (by decide) ?_
  refine e_iload_n (i := 1) 13 dX1_clear_12 rfl rfl rfl ?_
  refine e_bipush 15 dX1_clear_13 (by decide) rfl ?_
  refine e_icmp_ge 18 35 dX1_clear_15 (by decide) (by decide) (by decide) rfl (fun h => absurd h (by decide)) (fun _ => ?_)
  refine e_aload_n (i := 0) 19 dX1_clear_18 rfl rfl rfl ?_
  refine e_getr (j := 4) 22 fl_1_21 dX1_clear_19 at_885 rfl rfl tp_885_4 rfl ?_
  refine e_iload_n (i := 1) 23 dX1_clear_22 rfl rfl rfl ?_
  refine e_getsN 26 (i := 0) (by decide) (by decide +kernel) dX1_clear_23 rfl ?_
  refine e_iload_n (i := 1) 27 dX1_clear_26 rfl rfl rfl ?_
  refine e_tald 28 (i := 0) (by decide) dX1_clear_27 (by decide) (by decide) rfl ?_
  refine e_iast 29 dX1_clear_28 ar_889 (by decide) (by decide) (by decide) rfl ?_
  refine e_iinc (lsn := [(1, _), (0, _)]) 32 dX1_clear_29 rfl (by decide) rfl rfl ?_
  refine e_goto 12 dX1_clear_32 (by decide) ?_
  refine e_iload_n (i := 1) 13 dX1_clear_12 rfl rfl rfl ?_
  refine e_bipush 15 dX1_clear_13 (by decide) rfl ?_
  refine e_icmp_ge 18 35 dX1_clear_15 (by decide) (by decide) (by decide) rfl (fun h => absurd h (by decide)) (fun _ => ?_)
  refine e_aload_n (i := 0) 19 dX1_clear_18 rfl rfl rfl ?_
  refine e_getr (j := 4) 22 fl_1_21 dX1_clear_19 at_885 rfl rfl tp_885_4 rfl ?_
  refine e_iload_n (i := 1) 23 dX1_clear_22 rfl rfl rfl ?_
  refine e_getsN 26 (i := 0) (by decide) (by decide +kernel) dX1_clear_23 rfl ?_
  refine e_iload_n (i := 1) 27 dX1_clear_26 rfl rfl rfl ?_
  refine e_tald 28 (i := 0) (by decide) dX1_clear_27 (by decide) (by decide) rfl ?_
  refine e_iast 29 dX1_clear_28 ar_889 (by decide) (by decide) (by decide) rfl ?_
  refine e_iinc (lsn := [(1, _), (0, _)]) 32 dX1_clear_29 rfl (by decide) rfl rfl ?_
  refine e_goto 12 dX1_clear_32 (by decide) ?_
  refine e_iload_n (i := 1) 13 dX1_clear_12 rfl rfl rfl ?_
  refine e_bipush 15 dX1_clear_13 (by decide) rfl ?_
  refine e_icmp_ge 18 35 dX1_clear_15 (by decide) (by decide) (by decide) rfl (fun h => absurd h (by decide)) (fun _ => ?_)
  refine e_aload_n (i := 0) 19 dX1_clear_18 rfl rfl rfl ?_
  refine e_getr (j := 4) 22 fl_1_21 dX1_clear_19 at_885 rfl rfl tp_885_4 rfl ?_
  refine e_iload_n (i := 1) 23 dX1_clear_22 rfl rfl rfl ?_
  refine e_getsN 26 (i := 0) (by decide) (by decide +kernel) dX1_clear_23 rfl ?_
  refine e_iload_n (i := 1) 27 dX1_clear_26 rfl rfl rfl ?_
  refine e_tald 28 (i := 0) (by decide) dX1_clear_27 (by decide) (by decide) rfl ?_
  refine e_iast 29 dX1_clear_28 ar_889 (by decide) (by decide) (by decide) rfl ?_
  refine e_iinc (lsn := [(1, _), (0, _)]) 32 dX1_clear_29 rfl (by decide) rfl rfl ?_
  refine e_goto 12 dX1_clear_32 (by decide) ?_
  refine e_iload_n (i := 1) 13 dX1_clear_12 rfl rfl rfl ?_
  refine e_bipush 15 dX1_clear_13 (by decide) rfl ?_
  refine e_icmp_ge 18 35 dX1_clear_15 (by decide) (by decide) (by decide) rfl (fun h => absurd h (by decide)) (fun _ => ?_)
  refine e_aload_n (i := 0) 19 dX1_clear_18 rfl rfl rfl ?_
  refine e_getr (j := 4) 22 fl_1_21 dX1_clear_19 at_885 rfl rfl tp_885_4 rfl ?_
  refine e_iload_n (i := 1) 23 dX1_clear_22 rfl rfl rfl ?_
  refine e_getsN 26 (i := 0) (by decide) (by decide +kernel) dX1_clear_23 rfl ?_
  refine e_iload_n (i := 1) 27 dX1_clear_26 rfl rfl rfl ?_
  refine e_tald 28 (i := 0) (by decide) dX1_clear_27 (by decide) (by decide) rfl ?_
  refine e_iast 29 dX1_clear_28 ar_889 (by decide) (by decide) (by decide) rfl ?_
  refine e_iinc (lsn := [(1, _), (0, _)]) 32 dX1_clear_29 rfl (by decide) rfl rfl ?_
  refine e_goto 12 dX1_clear_32 (by decide) ?_
  refine e_iload_n (i := 1) 13 dX1_clear_12 rfl rfl rfl ?_
  refine e_bipush 15 dX1_clear_13 (by decide) rfl ?_
  refine e_icmp_ge 18 35 dX1_clear_15 (by decide) (by decide) (by decide) rfl (fun h => absurd h (by decide)) (fun _ => ?_)
  refine e_aload_n (i := 0) 19 dX1_clear_18 rfl rfl rfl ?_
  refine e_getr (j := 4) 22 fl_1_21 dX1_clear_19 at_885 rfl rfl tp_885_4 rfl ?_
  refine e_iload_n (i := 1) 23 dX1_clear_22 rfl rfl rfl ?_
  refine e_getsN 26 (i := 0) (by decide) (by decide +kernel) dX1_clear_23 rfl ?_
  refine e_iload_n (i := 1) 27 dX1_clear_26 rfl rfl rfl ?_
  refine e_tald 28 (i := 0) (by decide) dX1_clear_27 (by decide) (by decide) rfl ?_
  refine e_iast 29 dX1_clear_28 ar_889 (by decide) (by decide) (by decide) rfl ?_
  refine e_iinc (lsn := [(1, _), (0, _)]) 32 dX1_clear_29 rfl (by decide) rfl rfl ?_
  refine e_goto 12 dX1_clear_32 (by decide) ?_
  refine e_iload_n (i := 1) 13 dX1_clear_12 rfl rfl rfl ?_
  refine e_bipush 15 dX1_clear_13 (by decide) rfl ?_
  refine e_icmp_ge 18 35 dX1_clear_15 (by decide) (by decide) (by decide) rfl (fun _ => ?_) (fun h => absurd h (by decide))
  refine e_vret dX1_clear_35 ?_
  refine h _ (fun k a b => ?_) ?_ ?_ (fun i a b => ?_)
  · rw [row_k b, row_k b, row_k b, row_k b, row_k b, row_k b, row_k a, row_k a]
  · simp (disch := omega) only [jset_k, jset_j, jset_same, true_and, and_true]
  · simp (disch := omega) only [jset_k, jset_j, jset_same, true_and, and_true]
  · have hc : i = 0 ∨ i = 1 ∨ i = 2 ∨ i = 3 ∨ i = 4 ∨ i = 5 := by omega
    rcases hc with e | e | e | e | e | e <;> subst e <;> (simp (disch := omega) only [Int.reduceAdd, Int.zero_add, jset_j, jset_same]) <;> rfl

theorem cl_end {X : jX} {M Z : jM} {n i : Int} {Q : Int → jM → Prop} {z : PS} (hZ : CTk M Z n z) (hL : z.2.2.2.2.1 = 0 → CLw Z z) (h : ∀ W : jM, CTk M W n z → (z.2.2.2.2.1 = 0 → CLw W z) → Q (if z.2.2.2.2.1 = 0 then 1 else 0) W) : jE X yX6_readLaw cX6_readLaw 3 (some .boolean) 8 Q Z 96 [(0, jR 882), (1, jI n), (2, jI i)] [] := by
  have ew := hZ.2.2.2.2.1
  refine e_aload_n (i := 0) 97 dX6_readLaw_96 rfl rfl rfl ?_
  refine e_geti (j := 4) 100 fl_6_36 dX6_readLaw_97 at_882 (by decide) rfl rfl (fun r97 => ?_)
  refine e_if_ne 103 107 dX6_readLaw_100 (by omega) (by decide) rfl (fun b100 => ?_) (fun b100 => ?_)
  · skip
    refine e_iconst 108 dX6_readLaw_107 rfl ?_
    refine e_zret dX6_readLaw_108 (by decide) ?_
    have h := h Z hZ hL
    rw [if_neg (by omega)] at h
    exact h
  · skip
    refine e_iconst 104 dX6_readLaw_103 rfl ?_
    refine e_goto 108 dX6_readLaw_104 (by decide) ?_
    refine e_zret dX6_readLaw_108 (by decide) ?_
    have h := h Z hZ hL
    rw [if_pos (by omega)] at h
    exact h

theorem cl_law {X : jX} {M : jM} {n : Int} {Q : Int → jM → Prop} (hM : CM M n) : ∀ (f : Nat) (s : PS) (i : Int) (Z : jM), CTk M Z n s → PI n s → (s.2.2.2.2.1 = 0 → CLw Z s) → (s.2.2.2.2.1 = 0 → n - s.1 + 1 ≤ f ∧ i ≤ s.1) → (0 ≤ i ∧ i ≤ 401) → (∀ W : jM, CTk M W n (pTop (M 931) n 0 f s) → ((pTop (M 931) n 0 f s).2.2.2.2.1 = 0 → CLw W (pTop (M 931) n 0 f s)) → Q (if (pTop (M 931) n 0 f s).2.2.2.2.1 = 0 then 1 else 0) W) → jE X yX6_readLaw cX6_readLaw 3 (some .boolean) 8 Q Z 19 [(0, jR 882), (1, jI n), (2, jI i)] [] := by
  intro f
  induction f with
  | zero =>
    intro s i Z hZ hI hLs hf hi h
    have e3 := hZ.2.2.2.1.1
    have e5 := hZ.2.2.2.1.2.1
    have eT := hZ.2.2.2.1.2.2
    have hi1 := hI.1
    have hi2 := hI.2.1
    have hn0 := hM.1
    have ew := hZ.2.2.2.2.1
    rw [pTop] at h
    refine e_iload_n (i := 2) 20 dX6_readLaw_19 rfl rfl rfl ?_
    refine e_iload_n (i := 1) 21 dX6_readLaw_20 rfl rfl rfl ?_
    refine e_icmp_ge 24 96 dX6_readLaw_21 (by omega) (by omega) (by decide) rfl (fun b21 => ?_) (fun b21 => ?_)
    · skip
      exact cl_end hZ hLs h
    · skip
      refine e_aload_n (i := 0) 25 dX6_readLaw_24 rfl rfl rfl ?_
      refine e_geti (j := 4) 28 fl_6_36 dX6_readLaw_25 at_882 (by decide) rfl rfl (fun r25 => ?_)
      refine e_if_ne 31 96 dX6_readLaw_28 (by omega) (by decide) rfl (fun b28 => ?_) (fun b28 => ?_)
      · skip
        exact cl_end hZ hLs h
      · omega
  | succ f ih =>
    intro s i Z hZ hI hLs hf hi h
    have e3 := hZ.2.2.2.1.1
    have e5 := hZ.2.2.2.1.2.1
    have eT := hZ.2.2.2.1.2.2
    have hi1 := hI.1
    have hi2 := hI.2.1
    have hn0 := hM.1
    have ew := hZ.2.2.2.2.1
    have hI0 := hI
    obtain ⟨YT, hT, eT1⟩ := hM.rt
    refine e_iload_n (i := 2) 20 dX6_readLaw_19 rfl rfl rfl ?_
    refine e_iload_n (i := 1) 21 dX6_readLaw_20 rfl rfl rfl ?_
    refine e_icmp_ge 24 96 dX6_readLaw_21 (by omega) (by omega) (by decide) rfl (fun b21 => ?_) (fun b21 => ?_)
    · first
       | (exfalso; omega)
       | (skip
          rw [pTop, if_neg (by omega)] at h
          exact cl_end hZ hLs h)
    · first
       | (exfalso; omega)
       | (skip
          refine e_aload_n (i := 0) 25 dX6_readLaw_24 rfl rfl rfl ?_
          refine e_geti (j := 4) 28 fl_6_36 dX6_readLaw_25 at_882 (by decide) rfl rfl (fun r25 => ?_)
          refine e_if_ne 31 96 dX6_readLaw_28 (by omega) (by decide) rfl (fun b28 => ?_) (fun b28 => ?_)
          · first
             | (exfalso; omega)
             | (skip
                rw [pTop, if_neg (by omega)] at h
                exact cl_end hZ hLs h)
          · first
             | (exfalso; omega)
             | (skip
                refine e_aload_n (i := 0) 32 dX6_readLaw_31 rfl rfl rfl ?_
                refine e_getr (j := 0) 35 fl_6_12 dX6_readLaw_32 at_882 rfl rfl tp_882_0 rfl ?_
                refine e_geti (j := 4) 38 fl_6_50 dX6_readLaw_35 at_883 (by decide) rfl rfl (fun r35 => ?_)
                refine e_if_eq 41 96 dX6_readLaw_38 (by omega) (by decide) rfl (fun b38 => ?_) (fun b38 => ?_)
                · first
                   | (exfalso; omega)
                   | (skip
                      rw [pTop, if_neg (by omega)] at h
                      exact cl_end hZ hLs h)
                · first
                   | (exfalso; omega)
                   | (skip
                      have hw : s.2.2.2.2.1 = 0 := by omega
                      have hL := hLs hw
                      refine e_aload_n (i := 0) 42 dX6_readLaw_41 rfl rfl rfl ?_
                      refine e_getr (j := 0) 45 fl_6_12 dX6_readLaw_42 at_882 rfl rfl tp_882_0 rfl ?_
                      refine e_ldcS 47 (i := 0) (by decide) rfl rfl dX6_readLaw_45 rfl ?_
                      refine e_callV 50 mt_yX9_spells mv_yX9_spells wd_555 (by decide) dX6_readLaw_47 at_883 jc_9 rfl rfl rfl (Nat.le_of_ble_eq_true rfl) (jroom (by decide)) rfl (c_spells_0 hM hZ hI (fun w47 => ?_) (fun w47 => ?_))
                      · dsimp only [jpush]
                        first
                         | (exfalso; omega)
                         | (skip
                            refine e_if_eq 53 60 dX6_readLaw_50 (by decide) (by decide) rfl (fun h => absurd h (by decide)) (fun _ => ?_)
                            refine e_aload_n (i := 0) 54 dX6_readLaw_53 rfl rfl rfl ?_
                            refine e_callV 57 mt_yX6_readUpto mv_yX6_readUpto wd_607 (by decide) dX6_readLaw_54 at_882 jc_6 rfl rfl rfl (Nat.le_of_ble_eq_true rfl) (jroom (by decide)) rfl (c_upto hM hZ hI (by omega) hL (fun W54 hW54 hL54 => ?_))
                            dsimp only [jpush]
                            (try simp (disch := omega) only [jset_k, jset_j, jset_same, true_and, and_true] at W54 hW54 hL54)
                            have hL1 : pL1 (M 931) n s = pUpto (M 931) n s := if_pos (by omega)
                            rw [← hL1] at hW54 hL54
                            have g1 := pg_l1 hT hI hw
                            rw [eT1] at g1
                            have hZ := hW54
                            have hI := g1.1
                            have hD : LD W54 (W54 885) (W54 886) (W54 887) (W54 888) (W54 889) (W54 882 3) := LD.rf
                            obtain ⟨WL, hWL⟩ : ∃ Y, Y = W54 := ⟨_, rfl⟩
                            have hLL : (pL1 (M 931) n s).2.2.2.2.1 = 0 → CLw WL (pL1 (M 931) n s) := by
                              rw [hWL]
                              exact hL54
                            rw [← hWL] at hD
                            refine e_goto 64 dX6_readLaw_57 (by decide) ?_
                            refine e_aload_n (i := 0) 65 dX6_readLaw_64 rfl rfl rfl ?_
                            refine e_aload_n (i := 0) 66 dX6_readLaw_65 rfl rfl rfl ?_
                            refine e_getr (j := 0) 69 fl_6_12 dX6_readLaw_66 at_882 rfl rfl tp_882_0 rfl ?_
                            refine e_bipush 71 dX6_readLaw_69 (by decide) rfl ?_
                            refine e_callV 74 mt_yX9_isSign mv_yX9_isSign wd_648 (by decide) dX6_readLaw_71 at_883 jc_9 rfl rfl rfl (Nat.le_of_ble_eq_true rfl) (jroom (by decide)) rfl (c_isSign (k := 22) hM hZ hI (by omega) (fun w71 => ?_) (fun w71 => ?_))
                            · dsimp only [jpush]
                              (try simp (disch := omega) only [jset_k, jset_j, jset_same, true_and, and_true] at w71)
                              first
                               | (exfalso; omega)
                               | (skip
                                  refine e_callV 77 mt_yX6_pass mv_yX6_pass wd_625 (by decide) dX6_readLaw_74 at_882 jc_6 rfl rfl rfl (Nat.le_of_ble_eq_true rfl) (jroom (by decide)) rfl (c_pass (k := 22) hM hZ hI (by omega) (fun W74 hW74 hO74 => ?_))
                                  dsimp only [jpush]
                                  (try simp (disch := omega) only [jset_k, jset_j, jset_same, true_and, and_true] at W74 hW74 hO74)
                                  obtain ⟨s2, e2⟩ : ∃ z, z = pL2 (M 931) n s := ⟨_, rfl⟩
                                  have g2 : pMust (M 931) n 22 (pL1 (M 931) n s) = s2 := by
                                    rw [e2, pL2]
                                  rw [g2] at hW74
                                  have k2 := pc_must (k := 22) hM hI
                                  rw [g2] at k2
                                  have hZ := hW74
                                  have hOO := hO74
                                  rw [← hWL] at hOO
                                  have hD := (hD.co hOO).s5 (i := 5) (x := w32 (W74 885 5 + 1))
                                  refine e_aload_n (i := 0) 78 dX6_readLaw_77 rfl rfl rfl ?_
                                  refine e_getr (j := 1) 81 fl_6_21 dX6_readLaw_78 at_882 rfl rfl tp_882_1 rfl ?_
                                  refine e_dup 82 dX6_readLaw_81 rfl rfl ?_
                                  refine e_geti (j := 5) 85 fl_6_73 dX6_readLaw_82 at_885 (by decide) rfl rfl (fun r82 => ?_)
                                  skip
                                  refine e_iconst 86 dX6_readLaw_85 rfl ?_
                                  refine e_iadd 87 dX6_readLaw_86 rfl ?_
                                  refine e_putw (j := 5) 90 fl_6_73 dX6_readLaw_87 at_885 rfl rfl rfl rfl ?_
                                  refine e_iinc (lsn := [(2, _), (0, _), (1, _)]) 93 dX6_readLaw_90 rfl (by decide) rfl rfl ?_
                                  refine e_goto 19 dX6_readLaw_93 (by decide) ?_
                                  refine e_ls (ls2 := [(0, _), (1, _), (2, _)]) rfl ?_
                                  have gl := pg_line hT hI0 hw (by omega)
                                  rw [eT1] at gl
                                  have g12 := g1.1
                                  refine ih (pLine (M 931) n s) (i + 1) _ ?_ gl.1 ?_ ?_ (by omega) ?_
                                  · have q := hZ.set (k := 885) (i := 5) (v := w32 (W74 885 5 + 1)) (by omega)
                                    rw [e2] at q
                                    exact q
                                  · intro q
                                    have q2 : s2.2.2.2.2.1 = 0 := by
                                      rw [e2]
                                      exact q
                                    have q1 : (pL1 (M 931) n s).2.2.2.2.1 = 0 := (must_ok (M := M) (n := n) (s := pL1 (M 931) n s) (k := 22) (by rw [g2]; exact q2)).1
                                    have l5 := (hLL q1).2.1
                                    have i31 := g12.2.2.2.2.2.2.2.2.2
                                    have e885 : W74 885 = WL 885 := by
                                      exact hOO.1 885 (by omega) (by omega)
                                    refine lw_line (hLL q1) ?_ g12.2.2.2.2.2.2.1.2 ?_
                                    · rw [← e2]
                                      exact k2
                                    · rw [e885, w32_id (by rw [l5]; have := g12.1; omega)] at hD
                                      rw [e885, w32_id (by rw [l5]; have := g12.1; omega)]
                                      exact hD
                                  · intro q
                                    have a := gl.2.2.1 q
                                    have b := hf (by omega)
                                    omega
                                  · rw [pTop, if_pos (by omega), if_pos rfl] at h
                                    exact h)
                            · dsimp only [jpush]
                              (try simp (disch := omega) only [jset_k, jset_j, jset_same, true_and, and_true] at w71)
                              first
                               | (exfalso; omega)
                               | (skip
                                  refine e_callV 77 mt_yX6_pass mv_yX6_pass wd_625 (by decide) dX6_readLaw_74 at_882 jc_6 rfl rfl rfl (Nat.le_of_ble_eq_true rfl) (jroom (by decide)) rfl (c_pass (k := 22) hM hZ hI (by omega) (fun W74 hW74 hO74 => ?_))
                                  dsimp only [jpush]
                                  (try simp (disch := omega) only [jset_k, jset_j, jset_same, true_and, and_true] at W74 hW74 hO74)
                                  obtain ⟨s2, e2⟩ : ∃ z, z = pL2 (M 931) n s := ⟨_, rfl⟩
                                  have g2 : pMust (M 931) n 22 (pL1 (M 931) n s) = s2 := by
                                    rw [e2, pL2]
                                  rw [g2] at hW74
                                  have k2 := pc_must (k := 22) hM hI
                                  rw [g2] at k2
                                  have hZ := hW74
                                  have hOO := hO74
                                  rw [← hWL] at hOO
                                  have hD := (hD.co hOO).s5 (i := 5) (x := w32 (W74 885 5 + 1))
                                  refine e_aload_n (i := 0) 78 dX6_readLaw_77 rfl rfl rfl ?_
                                  refine e_getr (j := 1) 81 fl_6_21 dX6_readLaw_78 at_882 rfl rfl tp_882_1 rfl ?_
                                  refine e_dup 82 dX6_readLaw_81 rfl rfl ?_
                                  refine e_geti (j := 5) 85 fl_6_73 dX6_readLaw_82 at_885 (by decide) rfl rfl (fun r82 => ?_)
                                  skip
                                  refine e_iconst 86 dX6_readLaw_85 rfl ?_
                                  refine e_iadd 87 dX6_readLaw_86 rfl ?_
                                  refine e_putw (j := 5) 90 fl_6_73 dX6_readLaw_87 at_885 rfl rfl rfl rfl ?_
                                  refine e_iinc (lsn := [(2, _), (0, _), (1, _)]) 93 dX6_readLaw_90 rfl (by decide) rfl rfl ?_
                                  refine e_goto 19 dX6_readLaw_93 (by decide) ?_
                                  refine e_ls (ls2 := [(0, _), (1, _), (2, _)]) rfl ?_
                                  have gl := pg_line hT hI0 hw (by omega)
                                  rw [eT1] at gl
                                  have g12 := g1.1
                                  refine ih (pLine (M 931) n s) (i + 1) _ ?_ gl.1 ?_ ?_ (by omega) ?_
                                  · have q := hZ.set (k := 885) (i := 5) (v := w32 (W74 885 5 + 1)) (by omega)
                                    rw [e2] at q
                                    exact q
                                  · intro q
                                    have q2 : s2.2.2.2.2.1 = 0 := by
                                      rw [e2]
                                      exact q
                                    have q1 : (pL1 (M 931) n s).2.2.2.2.1 = 0 := (must_ok (M := M) (n := n) (s := pL1 (M 931) n s) (k := 22) (by rw [g2]; exact q2)).1
                                    have l5 := (hLL q1).2.1
                                    have i31 := g12.2.2.2.2.2.2.2.2.2
                                    have e885 : W74 885 = WL 885 := by
                                      exact hOO.1 885 (by omega) (by omega)
                                    refine lw_line (hLL q1) ?_ g12.2.2.2.2.2.2.1.2 ?_
                                    · rw [← e2]
                                      exact k2
                                    · rw [e885, w32_id (by rw [l5]; have := g12.1; omega)] at hD
                                      rw [e885, w32_id (by rw [l5]; have := g12.1; omega)]
                                      exact hD
                                  · intro q
                                    have a := gl.2.2.1 q
                                    have b := hf (by omega)
                                    omega
                                  · rw [pTop, if_pos (by omega), if_pos rfl] at h
                                    exact h))
                      · dsimp only [jpush]
                        first
                         | (exfalso; omega)
                         | (skip
                            refine e_if_eq 53 60 dX6_readLaw_50 (by decide) (by decide) rfl (fun _ => ?_) (fun h => absurd h (by decide))
                            refine e_aload_n (i := 0) 61 dX6_readLaw_60 rfl rfl rfl ?_
                            refine e_callV 64 mt_yX6_readRule mv_yX6_readRule wd_630 (by decide) dX6_readLaw_61 at_882 jc_6 rfl rfl rfl (Nat.le_of_ble_eq_true rfl) (jroom (by decide)) rfl (c_rrule hM hZ hI (by omega) hL (fun W61 hW61 hL61 => ?_))
                            dsimp only [jpush]
                            (try simp (disch := omega) only [jset_k, jset_j, jset_same, true_and, and_true] at W61 hW61 hL61)
                            have hL1 : pL1 (M 931) n s = pRule (M 931) n s := (if_neg (by omega)).trans (by unfold pRule; by_cases c : 3 ≤ s.2.2.1 ∧ s.2.2.1 ≤ 8 <;> simp [c, hw])
                            rw [← hL1] at hW61 hL61
                            have g1 := pg_l1 hT hI hw
                            rw [eT1] at g1
                            have hZ := hW61
                            have hI := g1.1
                            have hD : LD W61 (W61 885) (W61 886) (W61 887) (W61 888) (W61 889) (W61 882 3) := LD.rf
                            obtain ⟨WL, hWL⟩ : ∃ Y, Y = W61 := ⟨_, rfl⟩
                            have hLL : (pL1 (M 931) n s).2.2.2.2.1 = 0 → CLw WL (pL1 (M 931) n s) := by
                              rw [hWL]
                              exact hL61
                            rw [← hWL] at hD
                            refine e_aload_n (i := 0) 65 dX6_readLaw_64 rfl rfl rfl ?_
                            refine e_aload_n (i := 0) 66 dX6_readLaw_65 rfl rfl rfl ?_
                            refine e_getr (j := 0) 69 fl_6_12 dX6_readLaw_66 at_882 rfl rfl tp_882_0 rfl ?_
                            refine e_bipush 71 dX6_readLaw_69 (by decide) rfl ?_
                            refine e_callV 74 mt_yX9_isSign mv_yX9_isSign wd_648 (by decide) dX6_readLaw_71 at_883 jc_9 rfl rfl rfl (Nat.le_of_ble_eq_true rfl) (jroom (by decide)) rfl (c_isSign (k := 22) hM hZ hI (by omega) (fun w71 => ?_) (fun w71 => ?_))
                            · dsimp only [jpush]
                              (try simp (disch := omega) only [jset_k, jset_j, jset_same, true_and, and_true] at w71)
                              first
                               | (exfalso; omega)
                               | (skip
                                  refine e_callV 77 mt_yX6_pass mv_yX6_pass wd_625 (by decide) dX6_readLaw_74 at_882 jc_6 rfl rfl rfl (Nat.le_of_ble_eq_true rfl) (jroom (by decide)) rfl (c_pass (k := 22) hM hZ hI (by omega) (fun W74 hW74 hO74 => ?_))
                                  dsimp only [jpush]
                                  (try simp (disch := omega) only [jset_k, jset_j, jset_same, true_and, and_true] at W74 hW74 hO74)
                                  obtain ⟨s2, e2⟩ : ∃ z, z = pL2 (M 931) n s := ⟨_, rfl⟩
                                  have g2 : pMust (M 931) n 22 (pL1 (M 931) n s) = s2 := by
                                    rw [e2, pL2]
                                  rw [g2] at hW74
                                  have k2 := pc_must (k := 22) hM hI
                                  rw [g2] at k2
                                  have hZ := hW74
                                  have hOO := hO74
                                  rw [← hWL] at hOO
                                  have hD := (hD.co hOO).s5 (i := 5) (x := w32 (W74 885 5 + 1))
                                  refine e_aload_n (i := 0) 78 dX6_readLaw_77 rfl rfl rfl ?_
                                  refine e_getr (j := 1) 81 fl_6_21 dX6_readLaw_78 at_882 rfl rfl tp_882_1 rfl ?_
                                  refine e_dup 82 dX6_readLaw_81 rfl rfl ?_
                                  refine e_geti (j := 5) 85 fl_6_73 dX6_readLaw_82 at_885 (by decide) rfl rfl (fun r82 => ?_)
                                  skip
                                  refine e_iconst 86 dX6_readLaw_85 rfl ?_
                                  refine e_iadd 87 dX6_readLaw_86 rfl ?_
                                  refine e_putw (j := 5) 90 fl_6_73 dX6_readLaw_87 at_885 rfl rfl rfl rfl ?_
                                  refine e_iinc (lsn := [(2, _), (0, _), (1, _)]) 93 dX6_readLaw_90 rfl (by decide) rfl rfl ?_
                                  refine e_goto 19 dX6_readLaw_93 (by decide) ?_
                                  refine e_ls (ls2 := [(0, _), (1, _), (2, _)]) rfl ?_
                                  have gl := pg_line hT hI0 hw (by omega)
                                  rw [eT1] at gl
                                  have g12 := g1.1
                                  refine ih (pLine (M 931) n s) (i + 1) _ ?_ gl.1 ?_ ?_ (by omega) ?_
                                  · have q := hZ.set (k := 885) (i := 5) (v := w32 (W74 885 5 + 1)) (by omega)
                                    rw [e2] at q
                                    exact q
                                  · intro q
                                    have q2 : s2.2.2.2.2.1 = 0 := by
                                      rw [e2]
                                      exact q
                                    have q1 : (pL1 (M 931) n s).2.2.2.2.1 = 0 := (must_ok (M := M) (n := n) (s := pL1 (M 931) n s) (k := 22) (by rw [g2]; exact q2)).1
                                    have l5 := (hLL q1).2.1
                                    have i31 := g12.2.2.2.2.2.2.2.2.2
                                    have e885 : W74 885 = WL 885 := by
                                      exact hOO.1 885 (by omega) (by omega)
                                    refine lw_line (hLL q1) ?_ g12.2.2.2.2.2.2.1.2 ?_
                                    · rw [← e2]
                                      exact k2
                                    · rw [e885, w32_id (by rw [l5]; have := g12.1; omega)] at hD
                                      rw [e885, w32_id (by rw [l5]; have := g12.1; omega)]
                                      exact hD
                                  · intro q
                                    have a := gl.2.2.1 q
                                    have b := hf (by omega)
                                    omega
                                  · rw [pTop, if_pos (by omega), if_pos rfl] at h
                                    exact h)
                            · dsimp only [jpush]
                              (try simp (disch := omega) only [jset_k, jset_j, jset_same, true_and, and_true] at w71)
                              first
                               | (exfalso; omega)
                               | (skip
                                  refine e_callV 77 mt_yX6_pass mv_yX6_pass wd_625 (by decide) dX6_readLaw_74 at_882 jc_6 rfl rfl rfl (Nat.le_of_ble_eq_true rfl) (jroom (by decide)) rfl (c_pass (k := 22) hM hZ hI (by omega) (fun W74 hW74 hO74 => ?_))
                                  dsimp only [jpush]
                                  (try simp (disch := omega) only [jset_k, jset_j, jset_same, true_and, and_true] at W74 hW74 hO74)
                                  obtain ⟨s2, e2⟩ : ∃ z, z = pL2 (M 931) n s := ⟨_, rfl⟩
                                  have g2 : pMust (M 931) n 22 (pL1 (M 931) n s) = s2 := by
                                    rw [e2, pL2]
                                  rw [g2] at hW74
                                  have k2 := pc_must (k := 22) hM hI
                                  rw [g2] at k2
                                  have hZ := hW74
                                  have hOO := hO74
                                  rw [← hWL] at hOO
                                  have hD := (hD.co hOO).s5 (i := 5) (x := w32 (W74 885 5 + 1))
                                  refine e_aload_n (i := 0) 78 dX6_readLaw_77 rfl rfl rfl ?_
                                  refine e_getr (j := 1) 81 fl_6_21 dX6_readLaw_78 at_882 rfl rfl tp_882_1 rfl ?_
                                  refine e_dup 82 dX6_readLaw_81 rfl rfl ?_
                                  refine e_geti (j := 5) 85 fl_6_73 dX6_readLaw_82 at_885 (by decide) rfl rfl (fun r82 => ?_)
                                  skip
                                  refine e_iconst 86 dX6_readLaw_85 rfl ?_
                                  refine e_iadd 87 dX6_readLaw_86 rfl ?_
                                  refine e_putw (j := 5) 90 fl_6_73 dX6_readLaw_87 at_885 rfl rfl rfl rfl ?_
                                  refine e_iinc (lsn := [(2, _), (0, _), (1, _)]) 93 dX6_readLaw_90 rfl (by decide) rfl rfl ?_
                                  refine e_goto 19 dX6_readLaw_93 (by decide) ?_
                                  refine e_ls (ls2 := [(0, _), (1, _), (2, _)]) rfl ?_
                                  have gl := pg_line hT hI0 hw (by omega)
                                  rw [eT1] at gl
                                  have g12 := g1.1
                                  refine ih (pLine (M 931) n s) (i + 1) _ ?_ gl.1 ?_ ?_ (by omega) ?_
                                  · have q := hZ.set (k := 885) (i := 5) (v := w32 (W74 885 5 + 1)) (by omega)
                                    rw [e2] at q
                                    exact q
                                  · intro q
                                    have q2 : s2.2.2.2.2.1 = 0 := by
                                      rw [e2]
                                      exact q
                                    have q1 : (pL1 (M 931) n s).2.2.2.2.1 = 0 := (must_ok (M := M) (n := n) (s := pL1 (M 931) n s) (k := 22) (by rw [g2]; exact q2)).1
                                    have l5 := (hLL q1).2.1
                                    have i31 := g12.2.2.2.2.2.2.2.2.2
                                    have e885 : W74 885 = WL 885 := by
                                      exact hOO.1 885 (by omega) (by omega)
                                    refine lw_line (hLL q1) ?_ g12.2.2.2.2.2.2.1.2 ?_
                                    · rw [← e2]
                                      exact k2
                                    · rw [e885, w32_id (by rw [l5]; have := g12.1; omega)] at hD
                                      rw [e885, w32_id (by rw [l5]; have := g12.1; omega)]
                                      exact hD
                                  · intro q
                                    have a := gl.2.2.1 q
                                    have b := hf (by omega)
                                    omega
                                  · rw [pTop, if_pos (by omega), if_pos rfl] at h
                                    exact h)))))

theorem c_readLaw {M : jM} {n : Int} {Q : Int → jM → Prop} (hM : CM M n) (hv : -2147483648 ≤ M 928 10 ∧ M 928 10 ≤ 2147483647) (hf : n ≤ M 883 1 ∧ M 883 1 ≤ 400) (h91 : M 891 0 = 0) (h : ∀ W : jM, CTk M W n (txZ M n 0) → ((txZ M n 0).2.2.2.2.1 = 0 → CLw W (txZ M n 0)) → Q (if (txZ M n 0).2.2.2.2.1 = 0 then 1 else 0) W) : jCt yX6_readLaw cX6_readLaw 3 (some .boolean) 8 [jR 882, jI n] M Q := by
  refine jCt_of mt_yX6_readLaw (Nat.le_of_ble_eq_true rfl) (fun X => ?_)
  refine e_aload_n (i := 0) 1 dX6_readLaw_0 rfl rfl rfl ?_
  refine e_iload_n (i := 1) 2 dX6_readLaw_1 rfl rfl rfl ?_
  refine e_callV 5 mt_yX6_begin mv_yX6_begin wd_538 (by decide) dX6_readLaw_2 at_882 jc_6 rfl rfl rfl (Nat.le_of_ble_eq_true rfl) (jroom (by decide)) rfl (c_rbegin hM hv hf h91 (fun W2 hW2 h32 hO2 => ?_))
  dsimp only [jpush]
  (try simp (disch := omega) only [jset_k, jset_j, jset_same, true_and, and_true] at W2 hW2 h32 hO2)
  refine e_aload_n (i := 0) 6 dX6_readLaw_5 rfl rfl rfl ?_
  refine e_getr (j := 1) 9 fl_6_21 dX6_readLaw_6 at_882 rfl rfl tp_882_1 rfl ?_
  refine e_callV 12 mt_yX1_clear mv_yX1_clear wd_553 (by decide) dX6_readLaw_9 at_885 jc_1 rfl rfl rfl (Nat.le_of_ble_eq_true rfl) (jroom (by decide)) rfl (c_clear (M := M) (fun W9 hO9 h09 h59 h99 => ?_))
  dsimp only [jpush]
  (try simp (disch := omega) only [jset_k, jset_j, jset_same, true_and, and_true] at W9 hO9 h09 h59 h99)
  refine e_aload_n (i := 0) 13 dX6_readLaw_12 rfl rfl rfl ?_
  refine e_iconst 14 dX6_readLaw_13 rfl ?_
  refine e_puti (j := 3) 17 fl_6_32 dX6_readLaw_14 at_882 rfl rfl rfl (by decide) rfl ?_
  refine e_iconst 18 dX6_readLaw_17 rfl ?_
  refine e_istore_n (i := 2) (lsn := [(2, _), (0, _), (1, _)]) 19 dX6_readLaw_18 rfl (by decide) rfl rfl ?_
  refine e_ls (ls2 := [(0, _), (1, _), (2, _)]) rfl ?_
  have hI1 := (pc_next hM (pi_tx1 hM hv) rfl).1.1
  have i1 := hI1.1
  have hC : CTk M W9 n (pNext (M 931) n (tx1 M)) := ⟨fun k hk => (hO9 k (by omega) (by omega)).trans (hW2.1 k hk), ⟨by rw [hO9 883 (by omega) (by omega)]; exact hW2.2.1.1, by rw [hO9 891 (by omega) (by omega)]; exact hW2.2.1.2⟩, by rw [hO9 883 (by omega) (by omega)]; exact hW2.2.2.1, by unfold TR; rw [hO9 883 (by omega) (by omega)]; exact hW2.2.2.2.1, by rw [hO9 882 (by omega) (by omega)]; exact hW2.2.2.2.2.1, by rw [hO9 882 (by omega) (by omega)]; exact hW2.2.2.2.2.2⟩
  refine cl_law hM 500 (pNext (M 931) n (tx1 M)) 0 _ hC.told hI1 (fun _ => ⟨?_, ?_, fun i a b => ?_, fun i a b => ?_, jset_same⟩) (fun _ => by omega) (by omega) h
  · rw [jset_k (by omega), h09]
    rfl
  · rw [jset_k (by omega), h59]
    rfl
  · have b : i < 0 := b
    omega
  · rw [jset_k (by omega)]
    exact h99 i a b

