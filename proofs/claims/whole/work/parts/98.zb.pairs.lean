/-! TEXTS *** the class: lines of the law -/
theorem pc_next {M : jM} {n : Int} {s : PS} (hM : CM M n) (hI : PI n s) (hw : s.2.2.2.2.1 = 0) : PK n s (pNext (M 931) n s) ∧ s.2.1 ≤ (pNext (M 931) n s).1 := by
  obtain ⟨Y, hT, e⟩ := hM.rt
  have q := pk_next hT hI hw
  rw [e] at q
  exact q
theorem pc_must {M : jM} {n k : Int} {s : PS} (hM : CM M n) (hI : PI n s) : PK n s (pMust (M 931) n k s) := by
  obtain ⟨Y, hT, e⟩ := hM.rt
  have q := pk_must (k := k) hT hI
  rw [e] at q
  exact q
theorem pc_read {M : jM} {n lo hi : Int} {s : PS} (hM : CM M n) (hI : PI n s) : PK n s (pRead (M 931) n lo hi s) := by
  obtain ⟨Y, hT, e⟩ := hM.rt
  have q := pk_read (lo := lo) (hi := hi) hT hI
  rw [e] at q
  exact q
def LD (Y : jM) (f5 f6 f7 f8 f9 : Int → Int) (v : Int) : Prop := Y 885 = f5 ∧ Y 886 = f6 ∧ Y 887 = f7 ∧ Y 888 = f8 ∧ Y 889 = f9 ∧ Y 882 3 = v
section
variable {M Y Z W : jM} {f5 f6 f7 f8 f9 : Int → Int} {v i x : Int} {n : Int} {s : PS}
theorem LD.rf : LD Y (Y 885) (Y 886) (Y 887) (Y 888) (Y 889) (Y 882 3) := ⟨rfl, rfl, rfl, rfl, rfl, rfl⟩
theorem LD.co (h : LD Y f5 f6 f7 f8 f9 v) (o : CO Y W) : LD W f5 f6 f7 f8 f9 v := ⟨(o.1 885 (by omega) (by omega)).trans h.1, (o.1 886 (by omega) (by omega)).trans h.2.1, (o.1 887 (by omega) (by omega)).trans h.2.2.1, (o.1 888 (by omega) (by omega)).trans h.2.2.2.1, (o.1 889 (by omega) (by omega)).trans h.2.2.2.2.1, o.2.trans h.2.2.2.2.2⟩
theorem fun_set {k : Int} : jset Y k i x k = upd1 (Y k) i x := funext fun p => by
  by_cases e : p = i
  · rw [e, jset_same, u1]
  · rw [jset_j e, u2 e]
theorem LD.s5 (h : LD Y f5 f6 f7 f8 f9 v) : LD (jset Y 885 i x) (upd1 f5 i x) f6 f7 f8 f9 v := ⟨by rw [fun_set, h.1], (row_k (by omega)).trans h.2.1, (row_k (by omega)).trans h.2.2.1, (row_k (by omega)).trans h.2.2.2.1, (row_k (by omega)).trans h.2.2.2.2.1, (jset_k (by omega)).trans h.2.2.2.2.2⟩
theorem LD.s6 (h : LD Y f5 f6 f7 f8 f9 v) : LD (jset Y 886 i x) f5 (upd1 f6 i x) f7 f8 f9 v := ⟨(row_k (by omega)).trans h.1, by rw [fun_set, h.2.1], (row_k (by omega)).trans h.2.2.1, (row_k (by omega)).trans h.2.2.2.1, (row_k (by omega)).trans h.2.2.2.2.1, (jset_k (by omega)).trans h.2.2.2.2.2⟩
theorem LD.s7 (h : LD Y f5 f6 f7 f8 f9 v) : LD (jset Y 887 i x) f5 f6 (upd1 f7 i x) f8 f9 v := ⟨(row_k (by omega)).trans h.1, (row_k (by omega)).trans h.2.1, by rw [fun_set, h.2.2.1], (row_k (by omega)).trans h.2.2.2.1, (row_k (by omega)).trans h.2.2.2.2.1, (jset_k (by omega)).trans h.2.2.2.2.2⟩
theorem LD.s8 (h : LD Y f5 f6 f7 f8 f9 v) : LD (jset Y 888 i x) f5 f6 f7 (upd1 f8 i x) f9 v := ⟨(row_k (by omega)).trans h.1, (row_k (by omega)).trans h.2.1, (row_k (by omega)).trans h.2.2.1, by rw [fun_set, h.2.2.2.1], (row_k (by omega)).trans h.2.2.2.2.1, (jset_k (by omega)).trans h.2.2.2.2.2⟩
theorem LD.s9 (h : LD Y f5 f6 f7 f8 f9 v) : LD (jset Y 889 i x) f5 f6 f7 f8 (upd1 f9 i x) v := ⟨(row_k (by omega)).trans h.1, (row_k (by omega)).trans h.2.1, (row_k (by omega)).trans h.2.2.1, (row_k (by omega)).trans h.2.2.2.1, by rw [fun_set, h.2.2.2.2.1], (jset_k (by omega)).trans h.2.2.2.2.2⟩
theorem LD.tl (h : LD Y f5 f6 f7 f8 f9 v) : LD (jset Y 882 3 x) f5 f6 f7 f8 f9 x := ⟨(row_k (by omega)).trans h.1, (row_k (by omega)).trans h.2.1, (row_k (by omega)).trans h.2.2.1, (row_k (by omega)).trans h.2.2.2.1, (row_k (by omega)).trans h.2.2.2.2.1, jset_same⟩
/-- the class's law so far and the reference's -/
def CLw (Z : jM) (s : PS) : Prop := Z 885 0 = s.2.2.2.2.2.2.2.2.2 0 ∧ Z 885 5 = s.2.2.2.2.2.2.2.2.2 31 ∧ (∀ i : Int, 0 ≤ i → i < s.2.2.2.2.2.2.2.2.2 0 → Z 886 i = s.2.2.2.2.2.2.2.2.2 (1 + i) ∧ Z 887 i = s.2.2.2.2.2.2.2.2.2 (9 + i) ∧ Z 888 i = s.2.2.2.2.2.2.2.2.2 (17 + i)) ∧ (∀ i : Int, 0 ≤ i → i < 6 → Z 889 i = s.2.2.2.2.2.2.2.2.2 (25 + i)) ∧ Z 882 3 = s.2.2.2.2.2.2.2.2.1
theorem lw_upto (hM : CM M n) (hI : PI n s) (hw : s.2.2.2.2.1 = 0) (hL : CLw Z s) (h0 : s.2.2.2.2.2.2.2.2.2 0 ≠ 8) {r1 r3 r5 c : Int} (h1 : r1 = (pU1 (M 931) n s).2.2.2.1) (h3 : r3 = (pU3 (M 931) n s).2.2.2.1) (h5 : r5 = (pU5 (M 931) n s).2.2.2.1) (hc : c = s.2.2.2.2.2.2.2.2.2 0 + 1) (hD : LD W (upd1 (Z 885) 0 c) (upd1 (Z 886) (s.2.2.2.2.2.2.2.2.2 0) r1) (upd1 (Z 887) (s.2.2.2.2.2.2.2.2.2 0) r3) (upd1 (Z 888) (s.2.2.2.2.2.2.2.2.2 0) r5) (Z 889) (Z 882 3)) : CLw W (pU7 (M 931) n s) := by
  have h7 := hI.2.2.2.2.2.2.1
  have hk : PK n s (pU6 (M 931) n s) := by
    obtain ⟨Y, hT, e⟩ := hM.rt
    have q := (pk_u6 hT hI hw).1
    rw [e] at q
    exact q
  have ea := hk.pa
  have et : (pU6 (M 931) n s).2.2.2.2.2.2.2.2.1 = s.2.2.2.2.2.2.2.2.1 := congrArg (fun z => z.2.2.1) hk.2.2.2
  have f1 : ∀ i, i ≠ 0 → i ≠ 17 + s.2.2.2.2.2.2.2.2.2 0 → i ≠ 9 + s.2.2.2.2.2.2.2.2.2 0 → i ≠ 1 + s.2.2.2.2.2.2.2.2.2 0 → (pU7 (M 931) n s).2.2.2.2.2.2.2.2.2 i = s.2.2.2.2.2.2.2.2.2 i := fun i a b c d => by
    show upd1 (upd1 (upd1 (upd1 (pU6 (M 931) n s).2.2.2.2.2.2.2.2.2 _ _) _ _) _ _) 0 _ i = _
    rw [u2 a, u2 b, u2 c, u2 d, ea]
  have f0 : (pU7 (M 931) n s).2.2.2.2.2.2.2.2.2 0 = s.2.2.2.2.2.2.2.2.2 0 + 1 := by
    have e : (pU7 (M 931) n s).2.2.2.2.2.2.2.2.2 0 = (pU6 (M 931) n s).2.2.2.2.2.2.2.2.2 0 + 1 := by
      unfold pU7
      dsimp only
      exact u1
    rw [e, ea]
  have fu : (pU7 (M 931) n s).2.2.2.2.2.2.2.2.2 (1 + s.2.2.2.2.2.2.2.2.2 0) = (pU1 (M 931) n s).2.2.2.1 := by
    show upd1 (upd1 (upd1 (upd1 (pU6 (M 931) n s).2.2.2.2.2.2.2.2.2 _ _) _ _) _ _) 0 _ (1 + s.2.2.2.2.2.2.2.2.2 0) = _
    rw [u2 (by omega), u2 (by omega), u2 (by omega), u1]
  have ft : (pU7 (M 931) n s).2.2.2.2.2.2.2.2.2 (9 + s.2.2.2.2.2.2.2.2.2 0) = (pU3 (M 931) n s).2.2.2.1 := by
    show upd1 (upd1 (upd1 _ _ _) _ _) 0 _ (9 + s.2.2.2.2.2.2.2.2.2 0) = _
    rw [u2 (by omega), u2 (by omega), u1]
  have fp : (pU7 (M 931) n s).2.2.2.2.2.2.2.2.2 (17 + s.2.2.2.2.2.2.2.2.2 0) = (pU5 (M 931) n s).2.2.2.1 := by
    show upd1 (upd1 _ _ _) 0 _ (17 + s.2.2.2.2.2.2.2.2.2 0) = _
    rw [u2 (by omega), u1]
  obtain ⟨l0, l5, l3, l9, lt⟩ := hL
  obtain ⟨d5, d6, d7, d8, d9, dt⟩ := hD
  refine ⟨?_, ?_, fun i a b => ?_, fun i a b => ?_, ?_⟩
  · rw [d5, u1, f0, hc]
  · rw [d5, u2 (by omega), f1 31 (by omega) (by omega) (by omega) (by omega)]
    exact l5
  · rw [f0] at b
    rw [d6, d7, d8]
    by_cases e : i = s.2.2.2.2.2.2.2.2.2 0
    · rw [e, u1, u1, u1, fu, ft, fp]
      exact ⟨h1, h3, h5⟩
    · rw [u2 e, u2 e, u2 e, f1 _ (by omega) (by omega) (by omega) (by omega), f1 _ (by omega) (by omega) (by omega) (by omega), f1 _ (by omega) (by omega) (by omega) (by omega)]
      exact l3 i a (by omega)
  · rw [d9, f1 _ (by omega) (by omega) (by omega) (by omega)]
    exact l9 i a b
  · rw [dt, lt]
    exact et.symm
end
theorem c_great {Y : jM} {Q : Int → jM → Prop} (h8 : 0 ≤ Y 885 0 ∧ Y 885 0 ≤ 8) (h : Q (if 0 < Y 885 0 then Y 886 (Y 885 0 - 1) else 0) Y) : jCt yX1_greatest cX1_greatest 1 (some .int) 1 [jR 885] Y Q := by
  refine jCt_of mt_yX1_greatest (Nat.le_of_ble_eq_true rfl) (fun X => ?_)
  refine e_aload_n (i := 0) 1 dX1_greatest_0 rfl rfl rfl ?_
  refine e_geti (j := 0) 4 fl_1_27 dX1_greatest_1 at_885 (by decide) rfl rfl (fun r1 => ?_)
  refine e_if_le 7 21 dX1_greatest_4 (by omega) (by decide) rfl (fun b4 => ?_) (fun b4 => ?_)
  · skip
    refine e_iconst 22 dX1_greatest_21 rfl ?_
    refine e_iret dX1_greatest_22 ?_
    first
      | (rw [if_pos (by omega)] at h
         exact h)
      | (rw [if_neg (by omega)] at h
         exact h)
  · skip
    refine e_aload_n (i := 0) 8 dX1_greatest_7 rfl rfl rfl ?_
    refine e_getr (j := 1) 11 fl_1_9 dX1_greatest_8 at_885 rfl rfl tp_885_1 rfl ?_
    refine e_aload_n (i := 0) 12 dX1_greatest_11 rfl rfl rfl ?_
    refine e_geti (j := 0) 15 fl_1_27 dX1_greatest_12 at_885 (by decide) rfl rfl (fun r12 => ?_)
    refine e_iconst 16 dX1_greatest_15 rfl ?_
    refine e_isub 17 dX1_greatest_16 rfl ?_
    refine e_iald 18 dX1_greatest_17 ar_886 (by omega) (by omega) rfl (fun r17 => ?_)
    refine e_goto 22 dX1_greatest_18 (by decide) ?_
    refine e_iret dX1_greatest_22 ?_
    first
      | (rw [if_pos (by omega)] at h
         exact h)
      | (rw [if_neg (by omega)] at h
         exact h)

theorem c_upto {M Z : jM} {n : Int} {Q : Int → jM → Prop} (hM : CM M n) {s : PS} (hZ : CTk M Z n s) (hI : PI n s) (hw : s.2.2.2.2.1 = 0) (hL : CLw Z s) (h : ∀ W : jM, CTk M W n (pUpto (M 931) n s) → ((pUpto (M 931) n s).2.2.2.2.1 = 0 → CLw W (pUpto (M 931) n s)) → Q 0 W) : jCt yX6_readUpto cX6_readUpto 2 none 6 [jR 882] Z Q := by
  refine jCt_of mt_yX6_readUpto (Nat.le_of_ble_eq_true rfl) (fun X => ?_)
  have e3 := hZ.2.2.2.1.1
  have e5 := hZ.2.2.2.1.2.1
  have eT := hZ.2.2.2.1.2.2
  have hi1 := hI.1
  have hi2 := hI.2.1
  have hn0 := hM.1
  have hI0 := hI
  have l0 := hL.1
  have n0 := hI.2.2.2.2.2.2.1
  have hD : LD Z (Z 885) (Z 886) (Z 887) (Z 888) (Z 889) (Z 882 3) := LD.rf
  have l9 : s.2.2.2.2.2.2.2.2.2 0 ≠ 0 → Z 886 (Z 885 0 - 1) = s.2.2.2.2.2.2.2.2.2 (1 + s.2.2.2.2.2.2.2.2.2 0 - 1) ∧ 1 ≤ s.2.2.2.2.2.2.2.2.2 (1 + s.2.2.2.2.2.2.2.2.2 0 - 1) ∧ s.2.2.2.2.2.2.2.2.2 (1 + s.2.2.2.2.2.2.2.2.2 0 - 1) ≤ 999 := fun z => by
    have q := hI.2.2.2.2.2.2.2.2.1 (s.2.2.2.2.2.2.2.2.2 0 - 1) (by omega) (by omega)
    have q2 := (hL.2.2.1 (s.2.2.2.2.2.2.2.2.2 0 - 1) (by omega) (by omega)).1
    rw [show 1 + (s.2.2.2.2.2.2.2.2.2 0 - 1) = 1 + s.2.2.2.2.2.2.2.2.2 0 - 1 by omega] at q q2
    rw [l0]
    exact ⟨q2, q⟩
  by_cases hz : s.2.2.2.2.2.2.2.2.2 0 = 0
  case pos =>
    refine e_aload_n (i := 0) 1 dX6_readUpto_0 rfl rfl rfl ?_
    refine e_getr (j := 1) 4 fl_6_21 dX6_readUpto_1 at_882 rfl rfl tp_882_1 rfl ?_
    refine e_geti (j := 0) 7 fl_6_76 dX6_readUpto_4 at_885 (by decide) rfl rfl (fun r4 => ?_)
    refine e_istore_n (i := 1) (lsn := [(1, _), (0, _)]) 8 dX6_readUpto_7 rfl (by decide) rfl rfl ?_
    refine e_iload_n (i := 1) 9 dX6_readUpto_8 rfl rfl rfl ?_
    refine e_bipush 11 dX6_readUpto_9 (by decide) rfl ?_
    refine e_icmp_lt 14 20 dX6_readUpto_11 (by omega) (by decide) (by decide) rfl (fun b11 => ?_) (fun b11 => ?_)
    · first
       | (exfalso; omega)
       | (skip
          refine e_aload_n (i := 0) 21 dX6_readUpto_20 rfl rfl rfl ?_
          refine e_getr (j := 0) 24 fl_6_12 dX6_readUpto_21 at_882 rfl rfl tp_882_0 rfl ?_
          refine e_callV 27 mt_yX9_step mv_yX9_step wd_615 (by decide) dX6_readUpto_24 at_883 jc_9 rfl rfl rfl (Nat.le_of_ble_eq_true rfl) (jroom (by decide)) rfl (c_stp hM hZ hI (by omega) (fun W24 hW24 hO24 => ?_))
          dsimp only [jpush]
          (try simp (disch := omega) only [jset_k, jset_j, jset_same, true_and, and_true] at W24 hW24 hO24)
          obtain ⟨s1, e1⟩ : ∃ z, z = pU1 (M 931) n s := ⟨_, rfl⟩
          have g1 : pNext (M 931) n s = s1 := by
            rw [e1]
            rfl
          rw [g1] at hW24
          have k1 := (pc_next hM hI hw).1
          rw [g1] at k1
          have hZ := hW24
          have hI := k1.1
          have hD := hD.co hO24
          have v1 := k1.1.2.2.1
          have w1 := k1.1.2.2.2.1
          have dA := hD.1
          have dB := hD.2.1
          have l8 : W24 885 0 = s.2.2.2.2.2.2.2.2.2 0 := by rw [dA, l0]
          refine e_aload_n (i := 0) 28 dX6_readUpto_27 rfl rfl rfl ?_
          refine e_getr (j := 1) 31 fl_6_21 dX6_readUpto_28 at_882 rfl rfl tp_882_1 rfl ?_
          refine e_getr (j := 1) 34 fl_6_85 dX6_readUpto_31 at_885 rfl rfl tp_885_1 rfl ?_
          refine e_iload_n (i := 1) 35 dX6_readUpto_34 rfl rfl rfl ?_
          refine e_aload_n (i := 0) 36 dX6_readUpto_35 rfl rfl rfl ?_
          refine e_aload_n (i := 0) 37 dX6_readUpto_36 rfl rfl rfl ?_
          refine e_getr (j := 1) 40 fl_6_21 dX6_readUpto_37 at_882 rfl rfl tp_882_1 rfl ?_
          refine e_callV 43 mt_yX1_greatest mv_yX1_greatest wd_616 (by decide) dX6_readUpto_40 at_885 jc_1 rfl rfl rfl (Nat.le_of_ble_eq_true rfl) (jroom (by decide)) rfl (c_great (by omega) ?_)
          dsimp only [jpush]
          rw [show (if 0 < W24 885 0 then W24 886 (W24 885 0 - 1) else 0) = 0 from if_neg (by omega)]
          refine e_iconst 44 dX6_readUpto_43 rfl ?_
          refine e_iadd 45 dX6_readUpto_44 rfl ?_
          rw [Int.zero_add]
          refine e_sipush 48 dX6_readUpto_45 (by decide) rfl ?_
          refine e_callV 51 mt_yX6_passNumber mv_yX6_passNumber wd_620 (by decide) dX6_readUpto_48 at_882 jc_6 rfl rfl rfl (Nat.le_of_ble_eq_true rfl) (jroom (by decide)) rfl (c_pnum hM hZ hI (by omega) (by omega) (fun W48 r48 hW48 hO48 hr48 hv48 => ?_))
          dsimp only [jpush]
          (try simp (disch := omega) only [jset_k, jset_j, jset_same, true_and, and_true] at W48 r48 hW48 hO48 hr48 hv48)
          obtain ⟨s2, e2⟩ : ∃ z, z = pU2 (M 931) n s := ⟨_, rfl⟩
          have g2 : pRead (M 931) n 1 999 s1 = s2 := by
            rw [e2]
            rw [pU2, if_pos (by omega), ← e1]
          rw [g2] at hW48
          have k2 := pc_read (lo := 1) (hi := 999) hM hI
          rw [g2] at k2
          have hZ := hW48
          have hI := k2.1
          have hD := hD.co hO48
          have v2 := k2.1.2.2.1
          have w2 := k2.1.2.2.2.1
          rw [g2] at hv48
          refine e_iast 52 dX6_readUpto_51 ar_886 (by omega) (by omega) (by omega) rfl ?_
          obtain ⟨Z2, hZ2⟩ : ∃ Y, Y = jset W48 886 (Z 885 0) r48 := ⟨_, rfl⟩
          rw [← hZ2]
          have hZ : CTk M Z2 n s2 := by
            rw [hZ2]
            exact hZ.set (by omega)
          have hD := hD.s6 (i := Z 885 0) (x := r48)
          rw [← hZ2] at hD
          refine e_aload_n (i := 0) 53 dX6_readUpto_52 rfl rfl rfl ?_
          refine e_aload_n (i := 0) 54 dX6_readUpto_53 rfl rfl rfl ?_
          refine e_getr (j := 0) 57 fl_6_12 dX6_readUpto_54 at_882 rfl rfl tp_882_0 rfl ?_
          refine e_ldcS 59 (i := 1) (by decide) rfl rfl dX6_readUpto_57 rfl ?_
          refine e_callV 62 mt_yX9_spells mv_yX9_spells wd_555 (by decide) dX6_readUpto_59 at_883 jc_9 rfl rfl rfl (Nat.le_of_ble_eq_true rfl) (jroom (by decide)) rfl (c_spells_1 hM hZ hI (fun w59 => ?_) (fun w59 => ?_))
          · dsimp only [jpush]
            (try simp (disch := omega) only [jset_k, jset_j, jset_same, true_and, and_true] at w59)
            first
             | (exfalso; omega)
             | (skip
                refine e_callV 65 mt_yX6_pass mv_yX6_pass wd_625 (by decide) dX6_readUpto_62 at_882 jc_6 rfl rfl rfl (Nat.le_of_ble_eq_true rfl) (jroom (by decide)) rfl (c_pass (k := 1) hM hZ hI (by omega) (fun W62 hW62 hO62 => ?_))
                dsimp only [jpush]
                (try simp (disch := omega) only [jset_k, jset_j, jset_same, true_and, and_true] at W62 hW62 hO62)
                obtain ⟨s3, e3⟩ : ∃ z, z = pU3 (M 931) n s := ⟨_, rfl⟩
                have g3 : pMust (M 931) n 1 s2 = s3 := by
                  rw [e3]
                  rw [pU3, ← e2]
                rw [g3] at hW62
                have k3 := pc_must (k := 1) hM hI
                rw [g3] at k3
                have hZ := hW62
                have hI := k3.1
                have hD := hD.co hO62
                have v3 := k3.1.2.2.1
                have w3 := k3.1.2.2.2.1
                refine e_aload_n (i := 0) 66 dX6_readUpto_65 rfl rfl rfl ?_
                refine e_getr (j := 1) 69 fl_6_21 dX6_readUpto_66 at_882 rfl rfl tp_882_1 rfl ?_
                refine e_getr (j := 2) 72 fl_6_98 dX6_readUpto_69 at_885 rfl rfl tp_885_2 rfl ?_
                refine e_iload_n (i := 1) 73 dX6_readUpto_72 rfl rfl rfl ?_
                refine e_aload_n (i := 0) 74 dX6_readUpto_73 rfl rfl rfl ?_
                refine e_iconst 75 dX6_readUpto_74 rfl ?_
                refine e_bipush 77 dX6_readUpto_75 (by decide) rfl ?_
                refine e_callV 80 mt_yX6_passNumber mv_yX6_passNumber wd_620 (by decide) dX6_readUpto_77 at_882 jc_6 rfl rfl rfl (Nat.le_of_ble_eq_true rfl) (jroom (by decide)) rfl (c_pnum hM hZ hI (by omega) (by omega) (fun W77 r77 hW77 hO77 hr77 hv77 => ?_))
                dsimp only [jpush]
                (try simp (disch := omega) only [jset_k, jset_j, jset_same, true_and, and_true] at W77 r77 hW77 hO77 hr77 hv77)
                obtain ⟨s4, e4⟩ : ∃ z, z = pU4 (M 931) n s := ⟨_, rfl⟩
                have g4 : pRead (M 931) n 0 99 s3 = s4 := by
                  rw [e4]
                  rw [pU4, ← e3]
                rw [g4] at hW77
                have k4 := pc_read (lo := 0) (hi := 99) hM hI
                rw [g4] at k4
                have hZ := hW77
                have hI := k4.1
                have hD := hD.co hO77
                have v4 := k4.1.2.2.1
                have w4 := k4.1.2.2.2.1
                rw [g4] at hv77
                refine e_iast 81 dX6_readUpto_80 ar_887 (by omega) (by omega) (by omega) rfl ?_
                obtain ⟨Z4, hZ4⟩ : ∃ Y, Y = jset W77 887 (Z 885 0) r77 := ⟨_, rfl⟩
                rw [← hZ4]
                have hZ : CTk M Z4 n s4 := by
                  rw [hZ4]
                  exact hZ.set (by omega)
                have hD := hD.s7 (i := Z 885 0) (x := r77)
                rw [← hZ4] at hD
                refine e_aload_n (i := 0) 82 dX6_readUpto_81 rfl rfl rfl ?_
                refine e_aload_n (i := 0) 83 dX6_readUpto_82 rfl rfl rfl ?_
                refine e_getr (j := 0) 86 fl_6_12 dX6_readUpto_83 at_882 rfl rfl tp_882_0 rfl ?_
                refine e_ldcS 88 (i := 2) (by decide) rfl rfl dX6_readUpto_86 rfl ?_
                refine e_callV 91 mt_yX9_spells mv_yX9_spells wd_555 (by decide) dX6_readUpto_88 at_883 jc_9 rfl rfl rfl (Nat.le_of_ble_eq_true rfl) (jroom (by decide)) rfl (c_spells_2 hM hZ hI (fun w88 => ?_) (fun w88 => ?_))
                · dsimp only [jpush]
                  (try simp (disch := omega) only [jset_k, jset_j, jset_same, true_and, and_true] at w88)
                  first
                   | (exfalso; omega)
                   | (skip
                      refine e_callV 94 mt_yX6_pass mv_yX6_pass wd_625 (by decide) dX6_readUpto_91 at_882 jc_6 rfl rfl rfl (Nat.le_of_ble_eq_true rfl) (jroom (by decide)) rfl (c_pass (k := 2) hM hZ hI (by omega) (fun W91 hW91 hO91 => ?_))
                      dsimp only [jpush]
                      (try simp (disch := omega) only [jset_k, jset_j, jset_same, true_and, and_true] at W91 hW91 hO91)
                      obtain ⟨s5, e5⟩ : ∃ z, z = pU5 (M 931) n s := ⟨_, rfl⟩
                      have g5 : pMust (M 931) n 2 s4 = s5 := by
                        rw [e5]
                        rw [pU5, ← e4]
                      rw [g5] at hW91
                      have k5 := pc_must (k := 2) hM hI
                      rw [g5] at k5
                      have hZ := hW91
                      have hI := k5.1
                      have hD := hD.co hO91
                      have v5 := k5.1.2.2.1
                      have w5 := k5.1.2.2.2.1
                      refine e_aload_n (i := 0) 95 dX6_readUpto_94 rfl rfl rfl ?_
                      refine e_getr (j := 1) 98 fl_6_21 dX6_readUpto_95 at_882 rfl rfl tp_882_1 rfl ?_
                      refine e_getr (j := 3) 101 fl_6_102 dX6_readUpto_98 at_885 rfl rfl tp_885_3 rfl ?_
                      refine e_iload_n (i := 1) 102 dX6_readUpto_101 rfl rfl rfl ?_
                      refine e_aload_n (i := 0) 103 dX6_readUpto_102 rfl rfl rfl ?_
                      refine e_iconst 104 dX6_readUpto_103 rfl ?_
                      refine e_sipush 107 dX6_readUpto_104 (by decide) rfl ?_
                      refine e_callV 110 mt_yX6_passNumber mv_yX6_passNumber wd_620 (by decide) dX6_readUpto_107 at_882 jc_6 rfl rfl rfl (Nat.le_of_ble_eq_true rfl) (jroom (by decide)) rfl (c_pnum hM hZ hI (by omega) (by omega) (fun W107 r107 hW107 hO107 hr107 hv107 => ?_))
                      dsimp only [jpush]
                      (try simp (disch := omega) only [jset_k, jset_j, jset_same, true_and, and_true] at W107 r107 hW107 hO107 hr107 hv107)
                      obtain ⟨s6, e6⟩ : ∃ z, z = pU6 (M 931) n s := ⟨_, rfl⟩
                      have g6 : pRead (M 931) n 1 999 s5 = s6 := by
                        rw [e6]
                        rw [pU6, ← e5]
                      rw [g6] at hW107
                      have k6 := pc_read (lo := 1) (hi := 999) hM hI
                      rw [g6] at k6
                      have hZ := hW107
                      have hI := k6.1
                      have hD := hD.co hO107
                      have v6 := k6.1.2.2.1
                      have w6 := k6.1.2.2.2.1
                      rw [g6] at hv107
                      refine e_iast 111 dX6_readUpto_110 ar_888 (by omega) (by omega) (by omega) rfl ?_
                      obtain ⟨Z6, hZ6⟩ : ∃ Y, Y = jset W107 888 (Z 885 0) r107 := ⟨_, rfl⟩
                      rw [← hZ6]
                      have hZ : CTk M Z6 n s6 := by
                        rw [hZ6]
                        exact hZ.set (by omega)
                      have hD := hD.s8 (i := Z 885 0) (x := r107)
                      rw [← hZ6] at hD
                      refine e_aload_n (i := 0) 112 dX6_readUpto_111 rfl rfl rfl ?_
                      refine e_getr (j := 1) 115 fl_6_21 dX6_readUpto_112 at_882 rfl rfl tp_882_1 rfl ?_
                      refine e_dup 116 dX6_readUpto_115 rfl rfl ?_
                      refine e_geti (j := 0) 119 fl_6_76 dX6_readUpto_116 at_885 (by decide) rfl rfl (fun r116 => ?_)
                      have dZ := hD.1
                      have e885 : Z6 885 0 = Z 885 0 := by rw [dZ]
                      rw [e885] at r116 ⊢
                      refine e_iconst 120 dX6_readUpto_119 rfl ?_
                      refine e_iadd 121 dX6_readUpto_120 rfl ?_
                      refine e_puti (j := 0) 124 fl_6_76 dX6_readUpto_121 at_885 rfl rfl rfl (by omega) rfl ?_
                      refine e_vret dX6_readUpto_124 ?_
                      have u6 := u6_ok (M := M) (n := n) (s := s)
                      refine h _ ?_ (fun e => ?_)
                      · rw [pUpto, if_neg (by omega), ← e6]
                        split
                        · exact hZ.set (by omega)
                        · have q := hZ.set (k := 885) (i := 0) (v := Z 885 0 + 1) (by omega)
                          rw [e6] at q
                          exact q
                      · have e7 : s6.2.2.2.2.1 = 0 := by
                          rw [pUpto, if_neg (by omega), ← e6] at e
                          by_cases c : s6.2.2.2.2.1 ≠ 0
                          · rw [if_pos c] at e
                            exact e
                          · omega
                        rw [pUpto, if_neg (by omega), ← e6, if_neg (by omega)]
                        have hD := hD.s5 (i := 0) (x := Z 885 0 + 1)
                        rw [l0] at hD
                        rw [← e6] at u6
                        have uu := u6 e7
                        have m5 := must_ok (M := M) (n := n) (s := s4) (k := 2) (by rw [g5]; exact (read_ok (M := M) (n := n) (lo := 1) (hi := 999) (s := s5) (by rw [g6]; exact e7)).1)
                        have m3 := must_ok (M := M) (n := n) (s := s2) (k := 1) (by rw [g3]; exact (read_ok (M := M) (n := n) (lo := 0) (hi := 99) (s := s3) (by rw [g4]; exact m5.1)).1)
                        rw [← l0] at hD
                        refine lw_upto hM hI0 hw hL (by omega) ?_ ?_ ?_ ?_ (by rw [← l0]; exact hD)
                        · rw [← e1]
                          exact hv48 m3.1
                        · rw [← e3]
                          exact hv77 m5.1
                        · rw [← e5]
                          exact hv107 e7
                        · omega)
                · dsimp only [jpush]
                  (try simp (disch := omega) only [jset_k, jset_j, jset_same, true_and, and_true] at w88)
                  first
                   | (exfalso; omega)
                   | (skip
                      refine e_callV 94 mt_yX6_pass mv_yX6_pass wd_625 (by decide) dX6_readUpto_91 at_882 jc_6 rfl rfl rfl (Nat.le_of_ble_eq_true rfl) (jroom (by decide)) rfl (c_pass (k := 2) hM hZ hI (by omega) (fun W91 hW91 hO91 => ?_))
                      dsimp only [jpush]
                      (try simp (disch := omega) only [jset_k, jset_j, jset_same, true_and, and_true] at W91 hW91 hO91)
                      obtain ⟨s5, e5⟩ : ∃ z, z = pU5 (M 931) n s := ⟨_, rfl⟩
                      have g5 : pMust (M 931) n 2 s4 = s5 := by
                        rw [e5]
                        rw [pU5, ← e4]
                      rw [g5] at hW91
                      have k5 := pc_must (k := 2) hM hI
                      rw [g5] at k5
                      have hZ := hW91
                      have hI := k5.1
                      have hD := hD.co hO91
                      have v5 := k5.1.2.2.1
                      have w5 := k5.1.2.2.2.1
                      refine e_aload_n (i := 0) 95 dX6_readUpto_94 rfl rfl rfl ?_
                      refine e_getr (j := 1) 98 fl_6_21 dX6_readUpto_95 at_882 rfl rfl tp_882_1 rfl ?_
                      refine e_getr (j := 3) 101 fl_6_102 dX6_readUpto_98 at_885 rfl rfl tp_885_3 rfl ?_
                      refine e_iload_n (i := 1) 102 dX6_readUpto_101 rfl rfl rfl ?_
                      refine e_aload_n (i := 0) 103 dX6_readUpto_102 rfl rfl rfl ?_
                      refine e_iconst 104 dX6_readUpto_103 rfl ?_
                      refine e_sipush 107 dX6_readUpto_104 (by decide) rfl ?_
                      refine e_callV 110 mt_yX6_passNumber mv_yX6_passNumber wd_620 (by decide) dX6_readUpto_107 at_882 jc_6 rfl rfl rfl (Nat.le_of_ble_eq_true rfl) (jroom (by decide)) rfl (c_pnum hM hZ hI (by omega) (by omega) (fun W107 r107 hW107 hO107 hr107 hv107 => ?_))
                      dsimp only [jpush]
                      (try simp (disch := omega) only [jset_k, jset_j, jset_same, true_and, and_true] at W107 r107 hW107 hO107 hr107 hv107)
                      obtain ⟨s6, e6⟩ : ∃ z, z = pU6 (M 931) n s := ⟨_, rfl⟩
                      have g6 : pRead (M 931) n 1 999 s5 = s6 := by
                        rw [e6]
                        rw [pU6, ← e5]
                      rw [g6] at hW107
                      have k6 := pc_read (lo := 1) (hi := 999) hM hI
                      rw [g6] at k6
                      have hZ := hW107
                      have hI := k6.1
                      have hD := hD.co hO107
                      have v6 := k6.1.2.2.1
                      have w6 := k6.1.2.2.2.1
                      rw [g6] at hv107
                      refine e_iast 111 dX6_readUpto_110 ar_888 (by omega) (by omega) (by omega) rfl ?_
                      obtain ⟨Z6, hZ6⟩ : ∃ Y, Y = jset W107 888 (Z 885 0) r107 := ⟨_, rfl⟩
                      rw [← hZ6]
                      have hZ : CTk M Z6 n s6 := by
                        rw [hZ6]
                        exact hZ.set (by omega)
                      have hD := hD.s8 (i := Z 885 0) (x := r107)
                      rw [← hZ6] at hD
                      refine e_aload_n (i := 0) 112 dX6_readUpto_111 rfl rfl rfl ?_
                      refine e_getr (j := 1) 115 fl_6_21 dX6_readUpto_112 at_882 rfl rfl tp_882_1 rfl ?_
                      refine e_dup 116 dX6_readUpto_115 rfl rfl ?_
                      refine e_geti (j := 0) 119 fl_6_76 dX6_readUpto_116 at_885 (by decide) rfl rfl (fun r116 => ?_)
                      have dZ := hD.1
                      have e885 : Z6 885 0 = Z 885 0 := by rw [dZ]
                      rw [e885] at r116 ⊢
                      refine e_iconst 120 dX6_readUpto_119 rfl ?_
                      refine e_iadd 121 dX6_readUpto_120 rfl ?_
                      refine e_puti (j := 0) 124 fl_6_76 dX6_readUpto_121 at_885 rfl rfl rfl (by omega) rfl ?_
                      refine e_vret dX6_readUpto_124 ?_
                      have u6 := u6_ok (M := M) (n := n) (s := s)
                      refine h _ ?_ (fun e => ?_)
                      · rw [pUpto, if_neg (by omega), ← e6]
                        split
                        · exact hZ.set (by omega)
                        · have q := hZ.set (k := 885) (i := 0) (v := Z 885 0 + 1) (by omega)
                          rw [e6] at q
                          exact q
                      · have e7 : s6.2.2.2.2.1 = 0 := by
                          rw [pUpto, if_neg (by omega), ← e6] at e
                          by_cases c : s6.2.2.2.2.1 ≠ 0
                          · rw [if_pos c] at e
                            exact e
                          · omega
                        rw [pUpto, if_neg (by omega), ← e6, if_neg (by omega)]
                        have hD := hD.s5 (i := 0) (x := Z 885 0 + 1)
                        rw [l0] at hD
                        rw [← e6] at u6
                        have uu := u6 e7
                        have m5 := must_ok (M := M) (n := n) (s := s4) (k := 2) (by rw [g5]; exact (read_ok (M := M) (n := n) (lo := 1) (hi := 999) (s := s5) (by rw [g6]; exact e7)).1)
                        have m3 := must_ok (M := M) (n := n) (s := s2) (k := 1) (by rw [g3]; exact (read_ok (M := M) (n := n) (lo := 0) (hi := 99) (s := s3) (by rw [g4]; exact m5.1)).1)
                        rw [← l0] at hD
                        refine lw_upto hM hI0 hw hL (by omega) ?_ ?_ ?_ ?_ (by rw [← l0]; exact hD)
                        · rw [← e1]
                          exact hv48 m3.1
                        · rw [← e3]
                          exact hv77 m5.1
                        · rw [← e5]
                          exact hv107 e7
                        · omega))
          · dsimp only [jpush]
            (try simp (disch := omega) only [jset_k, jset_j, jset_same, true_and, and_true] at w59)
            first
             | (exfalso; omega)
             | (skip
                refine e_callV 65 mt_yX6_pass mv_yX6_pass wd_625 (by decide) dX6_readUpto_62 at_882 jc_6 rfl rfl rfl (Nat.le_of_ble_eq_true rfl) (jroom (by decide)) rfl (c_pass (k := 1) hM hZ hI (by omega) (fun W62 hW62 hO62 => ?_))
                dsimp only [jpush]
                (try simp (disch := omega) only [jset_k, jset_j, jset_same, true_and, and_true] at W62 hW62 hO62)
                obtain ⟨s3, e3⟩ : ∃ z, z = pU3 (M 931) n s := ⟨_, rfl⟩
                have g3 : pMust (M 931) n 1 s2 = s3 := by
                  rw [e3]
                  rw [pU3, ← e2]
                rw [g3] at hW62
                have k3 := pc_must (k := 1) hM hI
                rw [g3] at k3
                have hZ := hW62
                have hI := k3.1
                have hD := hD.co hO62
                have v3 := k3.1.2.2.1
                have w3 := k3.1.2.2.2.1
                refine e_aload_n (i := 0) 66 dX6_readUpto_65 rfl rfl rfl ?_
                refine e_getr (j := 1) 69 fl_6_21 dX6_readUpto_66 at_882 rfl rfl tp_882_1 rfl ?_
                refine e_getr (j := 2) 72 fl_6_98 dX6_readUpto_69 at_885 rfl rfl tp_885_2 rfl ?_
                refine e_iload_n (i := 1) 73 dX6_readUpto_72 rfl rfl rfl ?_
                refine e_aload_n (i := 0) 74 dX6_readUpto_73 rfl rfl rfl ?_
                refine e_iconst 75 dX6_readUpto_74 rfl ?_
                refine e_bipush 77 dX6_readUpto_75 (by decide) rfl ?_
                refine e_callV 80 mt_yX6_passNumber mv_yX6_passNumber wd_620 (by decide) dX6_readUpto_77 at_882 jc_6 rfl rfl rfl (Nat.le_of_ble_eq_true rfl) (jroom (by decide)) rfl (c_pnum hM hZ hI (by omega) (by omega) (fun W77 r77 hW77 hO77 hr77 hv77 => ?_))
                dsimp only [jpush]
                (try simp (disch := omega) only [jset_k, jset_j, jset_same, true_and, and_true] at W77 r77 hW77 hO77 hr77 hv77)
                obtain ⟨s4, e4⟩ : ∃ z, z = pU4 (M 931) n s := ⟨_, rfl⟩
                have g4 : pRead (M 931) n 0 99 s3 = s4 := by
                  rw [e4]
                  rw [pU4, ← e3]
                rw [g4] at hW77
                have k4 := pc_read (lo := 0) (hi := 99) hM hI
                rw [g4] at k4
                have hZ := hW77
                have hI := k4.1
                have hD := hD.co hO77
                have v4 := k4.1.2.2.1
                have w4 := k4.1.2.2.2.1
                rw [g4] at hv77
                refine e_iast 81 dX6_readUpto_80 ar_887 (by omega) (by omega) (by omega) rfl ?_
                obtain ⟨Z4, hZ4⟩ : ∃ Y, Y = jset W77 887 (Z 885 0) r77 := ⟨_, rfl⟩
                rw [← hZ4]
                have hZ : CTk M Z4 n s4 := by
                  rw [hZ4]
                  exact hZ.set (by omega)
                have hD := hD.s7 (i := Z 885 0) (x := r77)
                rw [← hZ4] at hD
                refine e_aload_n (i := 0) 82 dX6_readUpto_81 rfl rfl rfl ?_
                refine e_aload_n (i := 0) 83 dX6_readUpto_82 rfl rfl rfl ?_
                refine e_getr (j := 0) 86 fl_6_12 dX6_readUpto_83 at_882 rfl rfl tp_882_0 rfl ?_
                refine e_ldcS 88 (i := 2) (by decide) rfl rfl dX6_readUpto_86 rfl ?_
                refine e_callV 91 mt_yX9_spells mv_yX9_spells wd_555 (by decide) dX6_readUpto_88 at_883 jc_9 rfl rfl rfl (Nat.le_of_ble_eq_true rfl) (jroom (by decide)) rfl (c_spells_2 hM hZ hI (fun w88 => ?_) (fun w88 => ?_))
                · dsimp only [jpush]
                  (try simp (disch := omega) only [jset_k, jset_j, jset_same, true_and, and_true] at w88)
                  first
                   | (exfalso; omega)
                   | (skip
                      refine e_callV 94 mt_yX6_pass mv_yX6_pass wd_625 (by decide) dX6_readUpto_91 at_882 jc_6 rfl rfl rfl (Nat.le_of_ble_eq_true rfl) (jroom (by decide)) rfl (c_pass (k := 2) hM hZ hI (by omega) (fun W91 hW91 hO91 => ?_))
                      dsimp only [jpush]
                      (try simp (disch := omega) only [jset_k, jset_j, jset_same, true_and, and_true] at W91 hW91 hO91)
                      obtain ⟨s5, e5⟩ : ∃ z, z = pU5 (M 931) n s := ⟨_, rfl⟩
                      have g5 : pMust (M 931) n 2 s4 = s5 := by
                        rw [e5]
                        rw [pU5, ← e4]
                      rw [g5] at hW91
                      have k5 := pc_must (k := 2) hM hI
                      rw [g5] at k5
                      have hZ := hW91
                      have hI := k5.1
                      have hD := hD.co hO91
                      have v5 := k5.1.2.2.1
                      have w5 := k5.1.2.2.2.1
                      refine e_aload_n (i := 0) 95 dX6_readUpto_94 rfl rfl rfl ?_
                      refine e_getr (j := 1) 98 fl_6_21 dX6_readUpto_95 at_882 rfl rfl tp_882_1 rfl ?_
                      refine e_getr (j := 3) 101 fl_6_102 dX6_readUpto_98 at_885 rfl rfl tp_885_3 rfl ?_
                      refine e_iload_n (i := 1) 102 dX6_readUpto_101 rfl rfl rfl ?_
                      refine e_aload_n (i := 0) 103 dX6_readUpto_102 rfl rfl rfl ?_
                      refine e_iconst 104 dX6_readUpto_103 rfl ?_
                      refine e_sipush 107 dX6_readUpto_104 (by decide) rfl ?_
                      refine e_callV 110 mt_yX6_passNumber mv_yX6_passNumber wd_620 (by decide) dX6_readUpto_107 at_882 jc_6 rfl rfl rfl (Nat.le_of_ble_eq_true rfl) (jroom (by decide)) rfl (c_pnum hM hZ hI (by omega) (by omega) (fun W107 r107 hW107 hO107 hr107 hv107 => ?_))
                      dsimp only [jpush]
                      (try simp (disch := omega) only [jset_k, jset_j, jset_same, true_and, and_true] at W107 r107 hW107 hO107 hr107 hv107)
                      obtain ⟨s6, e6⟩ : ∃ z, z = pU6 (M 931) n s := ⟨_, rfl⟩
                      have g6 : pRead (M 931) n 1 999 s5 = s6 := by
                        rw [e6]
                        rw [pU6, ← e5]
                      rw [g6] at hW107
                      have k6 := pc_read (lo := 1) (hi := 999) hM hI
                      rw [g6] at k6
                      have hZ := hW107
                      have hI := k6.1
                      have hD := hD.co hO107
                      have v6 := k6.1.2.2.1
                      have w6 := k6.1.2.2.2.1
                      rw [g6] at hv107
                      refine e_iast 111 dX6_readUpto_110 ar_888 (by omega) (by omega) (by omega) rfl ?_
                      obtain ⟨Z6, hZ6⟩ : ∃ Y, Y = jset W107 888 (Z 885 0) r107 := ⟨_, rfl⟩
                      rw [← hZ6]
                      have hZ : CTk M Z6 n s6 := by
                        rw [hZ6]
                        exact hZ.set (by omega)
                      have hD := hD.s8 (i := Z 885 0) (x := r107)
                      rw [← hZ6] at hD
                      refine e_aload_n (i := 0) 112 dX6_readUpto_111 rfl rfl rfl ?_
                      refine e_getr (j := 1) 115 fl_6_21 dX6_readUpto_112 at_882 rfl rfl tp_882_1 rfl ?_
                      refine e_dup 116 dX6_readUpto_115 rfl rfl ?_
                      refine e_geti (j := 0) 119 fl_6_76 dX6_readUpto_116 at_885 (by decide) rfl rfl (fun r116 => ?_)
                      have dZ := hD.1
                      have e885 : Z6 885 0 = Z 885 0 := by rw [dZ]
                      rw [e885] at r116 ⊢
                      refine e_iconst 120 dX6_readUpto_119 rfl ?_
                      refine e_iadd 121 dX6_readUpto_120 rfl ?_
                      refine e_puti (j := 0) 124 fl_6_76 dX6_readUpto_121 at_885 rfl rfl rfl (by omega) rfl ?_
                      refine e_vret dX6_readUpto_124 ?_
                      have u6 := u6_ok (M := M) (n := n) (s := s)
                      refine h _ ?_ (fun e => ?_)
                      · rw [pUpto, if_neg (by omega), ← e6]
                        split
                        · exact hZ.set (by omega)
                        · have q := hZ.set (k := 885) (i := 0) (v := Z 885 0 + 1) (by omega)
                          rw [e6] at q
                          exact q
                      · have e7 : s6.2.2.2.2.1 = 0 := by
                          rw [pUpto, if_neg (by omega), ← e6] at e
                          by_cases c : s6.2.2.2.2.1 ≠ 0
                          · rw [if_pos c] at e
                            exact e
                          · omega
                        rw [pUpto, if_neg (by omega), ← e6, if_neg (by omega)]
                        have hD := hD.s5 (i := 0) (x := Z 885 0 + 1)
                        rw [l0] at hD
                        rw [← e6] at u6
                        have uu := u6 e7
                        have m5 := must_ok (M := M) (n := n) (s := s4) (k := 2) (by rw [g5]; exact (read_ok (M := M) (n := n) (lo := 1) (hi := 999) (s := s5) (by rw [g6]; exact e7)).1)
                        have m3 := must_ok (M := M) (n := n) (s := s2) (k := 1) (by rw [g3]; exact (read_ok (M := M) (n := n) (lo := 0) (hi := 99) (s := s3) (by rw [g4]; exact m5.1)).1)
                        rw [← l0] at hD
                        refine lw_upto hM hI0 hw hL (by omega) ?_ ?_ ?_ ?_ (by rw [← l0]; exact hD)
                        · rw [← e1]
                          exact hv48 m3.1
                        · rw [← e3]
                          exact hv77 m5.1
                        · rw [← e5]
                          exact hv107 e7
                        · omega)
                · dsimp only [jpush]
                  (try simp (disch := omega) only [jset_k, jset_j, jset_same, true_and, and_true] at w88)
                  first
                   | (exfalso; omega)
                   | (skip
                      refine e_callV 94 mt_yX6_pass mv_yX6_pass wd_625 (by decide) dX6_readUpto_91 at_882 jc_6 rfl rfl rfl (Nat.le_of_ble_eq_true rfl) (jroom (by decide)) rfl (c_pass (k := 2) hM hZ hI (by omega) (fun W91 hW91 hO91 => ?_))
                      dsimp only [jpush]
                      (try simp (disch := omega) only [jset_k, jset_j, jset_same, true_and, and_true] at W91 hW91 hO91)
                      obtain ⟨s5, e5⟩ : ∃ z, z = pU5 (M 931) n s := ⟨_, rfl⟩
                      have g5 : pMust (M 931) n 2 s4 = s5 := by
                        rw [e5]
                        rw [pU5, ← e4]
                      rw [g5] at hW91
                      have k5 := pc_must (k := 2) hM hI
                      rw [g5] at k5
                      have hZ := hW91
                      have hI := k5.1
                      have hD := hD.co hO91
                      have v5 := k5.1.2.2.1
                      have w5 := k5.1.2.2.2.1
                      refine e_aload_n (i := 0) 95 dX6_readUpto_94 rfl rfl rfl ?_
                      refine e_getr (j := 1) 98 fl_6_21 dX6_readUpto_95 at_882 rfl rfl tp_882_1 rfl ?_
                      refine e_getr (j := 3) 101 fl_6_102 dX6_readUpto_98 at_885 rfl rfl tp_885_3 rfl ?_
                      refine e_iload_n (i := 1) 102 dX6_readUpto_101 rfl rfl rfl ?_
                      refine e_aload_n (i := 0) 103 dX6_readUpto_102 rfl rfl rfl ?_
                      refine e_iconst 104 dX6_readUpto_103 rfl ?_
                      refine e_sipush 107 dX6_readUpto_104 (by decide) rfl ?_
                      refine e_callV 110 mt_yX6_passNumber mv_yX6_passNumber wd_620 (by decide) dX6_readUpto_107 at_882 jc_6 rfl rfl rfl (Nat.le_of_ble_eq_true rfl) (jroom (by decide)) rfl (c_pnum hM hZ hI (by omega) (by omega) (fun W107 r107 hW107 hO107 hr107 hv107 => ?_))
                      dsimp only [jpush]
                      (try simp (disch := omega) only [jset_k, jset_j, jset_same, true_and, and_true] at W107 r107 hW107 hO107 hr107 hv107)
                      obtain ⟨s6, e6⟩ : ∃ z, z = pU6 (M 931) n s := ⟨_, rfl⟩
                      have g6 : pRead (M 931) n 1 999 s5 = s6 := by
                        rw [e6]
                        rw [pU6, ← e5]
                      rw [g6] at hW107
                      have k6 := pc_read (lo := 1) (hi := 999) hM hI
                      rw [g6] at k6
                      have hZ := hW107
                      have hI := k6.1
                      have hD := hD.co hO107
                      have v6 := k6.1.2.2.1
                      have w6 := k6.1.2.2.2.1
                      rw [g6] at hv107
                      refine e_iast 111 dX6_readUpto_110 ar_888 (by omega) (by omega) (by omega) rfl ?_
                      obtain ⟨Z6, hZ6⟩ : ∃ Y, Y = jset W107 888 (Z 885 0) r107 := ⟨_, rfl⟩
                      rw [← hZ6]
                      have hZ : CTk M Z6 n s6 := by
                        rw [hZ6]
                        exact hZ.set (by omega)
                      have hD := hD.s8 (i := Z 885 0) (x := r107)
                      rw [← hZ6] at hD
                      refine e_aload_n (i := 0) 112 dX6_readUpto_111 rfl rfl rfl ?_
                      refine e_getr (j := 1) 115 fl_6_21 dX6_readUpto_112 at_882 rfl rfl tp_882_1 rfl ?_
                      refine e_dup 116 dX6_readUpto_115 rfl rfl ?_
                      refine e_geti (j := 0) 119 fl_6_76 dX6_readUpto_116 at_885 (by decide) rfl rfl (fun r116 => ?_)
                      have dZ := hD.1
                      have e885 : Z6 885 0 = Z 885 0 := by rw [dZ]
                      rw [e885] at r116 ⊢
                      refine e_iconst 120 dX6_readUpto_119 rfl ?_
                      refine e_iadd 121 dX6_readUpto_120 rfl ?_
                      refine e_puti (j := 0) 124 fl_6_76 dX6_readUpto_121 at_885 rfl rfl rfl (by omega) rfl ?_
                      refine e_vret dX6_readUpto_124 ?_
                      have u6 := u6_ok (M := M) (n := n) (s := s)
                      refine h _ ?_ (fun e => ?_)
                      · rw [pUpto, if_neg (by omega), ← e6]
                        split
                        · exact hZ.set (by omega)
                        · have q := hZ.set (k := 885) (i := 0) (v := Z 885 0 + 1) (by omega)
                          rw [e6] at q
                          exact q
                      · have e7 : s6.2.2.2.2.1 = 0 := by
                          rw [pUpto, if_neg (by omega), ← e6] at e
                          by_cases c : s6.2.2.2.2.1 ≠ 0
                          · rw [if_pos c] at e
                            exact e
                          · omega
                        rw [pUpto, if_neg (by omega), ← e6, if_neg (by omega)]
                        have hD := hD.s5 (i := 0) (x := Z 885 0 + 1)
                        rw [l0] at hD
                        rw [← e6] at u6
                        have uu := u6 e7
                        have m5 := must_ok (M := M) (n := n) (s := s4) (k := 2) (by rw [g5]; exact (read_ok (M := M) (n := n) (lo := 1) (hi := 999) (s := s5) (by rw [g6]; exact e7)).1)
                        have m3 := must_ok (M := M) (n := n) (s := s2) (k := 1) (by rw [g3]; exact (read_ok (M := M) (n := n) (lo := 0) (hi := 99) (s := s3) (by rw [g4]; exact m5.1)).1)
                        rw [← l0] at hD
                        refine lw_upto hM hI0 hw hL (by omega) ?_ ?_ ?_ ?_ (by rw [← l0]; exact hD)
                        · rw [← e1]
                          exact hv48 m3.1
                        · rw [← e3]
                          exact hv77 m5.1
                        · rw [← e5]
                          exact hv107 e7
                        · omega)))
    · first
       | (exfalso; omega)
       | (skip
          refine e_aload_n (i := 0) 15 dX6_readUpto_14 rfl rfl rfl ?_
          refine e_iconst 16 dX6_readUpto_15 rfl ?_
          refine e_callV 19 mt_yX6_refuse mv_yX6_refuse wd_611 (by decide) dX6_readUpto_16 at_882 jc_6 rfl rfl rfl (Nat.le_of_ble_eq_true rfl) (jroom (by decide)) rfl (c_rfs hM hZ hI (by omega) (by omega) (fun W16 hW16 hO16 => ?_))
          dsimp only [jpush]
          (try simp (disch := omega) only [jset_k, jset_j, jset_same, true_and, and_true] at W16 hW16 hO16)
          refine e_vret dX6_readUpto_19 ?_
          first
            | (exfalso; omega)
            | (have e : pUpto (M 931) n s = pFail 4 s := by
                 rw [pUpto, if_pos (by omega)]
               rw [e] at h
               exact h _ hW16 (fun q => absurd q (pk_fail (f := 4) (by omega) hI).2)))
  case neg =>
    refine e_aload_n (i := 0) 1 dX6_readUpto_0 rfl rfl rfl ?_
    refine e_getr (j := 1) 4 fl_6_21 dX6_readUpto_1 at_882 rfl rfl tp_882_1 rfl ?_
    refine e_geti (j := 0) 7 fl_6_76 dX6_readUpto_4 at_885 (by decide) rfl rfl (fun r4 => ?_)
    refine e_istore_n (i := 1) (lsn := [(1, _), (0, _)]) 8 dX6_readUpto_7 rfl (by decide) rfl rfl ?_
    refine e_iload_n (i := 1) 9 dX6_readUpto_8 rfl rfl rfl ?_
    refine e_bipush 11 dX6_readUpto_9 (by decide) rfl ?_
    refine e_icmp_lt 14 20 dX6_readUpto_11 (by omega) (by decide) (by decide) rfl (fun b11 => ?_) (fun b11 => ?_)
    · first
       | (exfalso; omega)
       | (skip
          refine e_aload_n (i := 0) 21 dX6_readUpto_20 rfl rfl rfl ?_
          refine e_getr (j := 0) 24 fl_6_12 dX6_readUpto_21 at_882 rfl rfl tp_882_0 rfl ?_
          refine e_callV 27 mt_yX9_step mv_yX9_step wd_615 (by decide) dX6_readUpto_24 at_883 jc_9 rfl rfl rfl (Nat.le_of_ble_eq_true rfl) (jroom (by decide)) rfl (c_stp hM hZ hI (by omega) (fun W24 hW24 hO24 => ?_))
          dsimp only [jpush]
          (try simp (disch := omega) only [jset_k, jset_j, jset_same, true_and, and_true] at W24 hW24 hO24)
          obtain ⟨s1, e1⟩ : ∃ z, z = pU1 (M 931) n s := ⟨_, rfl⟩
          have g1 : pNext (M 931) n s = s1 := by
            rw [e1]
            rfl
          rw [g1] at hW24
          have k1 := (pc_next hM hI hw).1
          rw [g1] at k1
          have hZ := hW24
          have hI := k1.1
          have hD := hD.co hO24
          have v1 := k1.1.2.2.1
          have w1 := k1.1.2.2.2.1
          have dA := hD.1
          have dB := hD.2.1
          have l8 : W24 885 0 = s.2.2.2.2.2.2.2.2.2 0 := by rw [dA, l0]
          refine e_aload_n (i := 0) 28 dX6_readUpto_27 rfl rfl rfl ?_
          refine e_getr (j := 1) 31 fl_6_21 dX6_readUpto_28 at_882 rfl rfl tp_882_1 rfl ?_
          refine e_getr (j := 1) 34 fl_6_85 dX6_readUpto_31 at_885 rfl rfl tp_885_1 rfl ?_
          refine e_iload_n (i := 1) 35 dX6_readUpto_34 rfl rfl rfl ?_
          refine e_aload_n (i := 0) 36 dX6_readUpto_35 rfl rfl rfl ?_
          refine e_aload_n (i := 0) 37 dX6_readUpto_36 rfl rfl rfl ?_
          refine e_getr (j := 1) 40 fl_6_21 dX6_readUpto_37 at_882 rfl rfl tp_882_1 rfl ?_
          refine e_callV 43 mt_yX1_greatest mv_yX1_greatest wd_616 (by decide) dX6_readUpto_40 at_885 jc_1 rfl rfl rfl (Nat.le_of_ble_eq_true rfl) (jroom (by decide)) rfl (c_great (by omega) ?_)
          dsimp only [jpush]
          rw [show (if 0 < W24 885 0 then W24 886 (W24 885 0 - 1) else 0) = s.2.2.2.2.2.2.2.2.2 (1 + s.2.2.2.2.2.2.2.2.2 0 - 1) from by rw [if_pos (by omega), dB, dA, (l9 hz).1]]
          have l99 := (l9 hz).2
          refine e_iconst 44 dX6_readUpto_43 rfl ?_
          refine e_iadd 45 dX6_readUpto_44 rfl ?_
          refine e_sipush 48 dX6_readUpto_45 (by decide) rfl ?_
          refine e_callV 51 mt_yX6_passNumber mv_yX6_passNumber wd_620 (by decide) dX6_readUpto_48 at_882 jc_6 rfl rfl rfl (Nat.le_of_ble_eq_true rfl) (jroom (by decide)) rfl (c_pnum hM hZ hI (by omega) (by omega) (fun W48 r48 hW48 hO48 hr48 hv48 => ?_))
          dsimp only [jpush]
          (try simp (disch := omega) only [jset_k, jset_j, jset_same, true_and, and_true] at W48 r48 hW48 hO48 hr48 hv48)
          obtain ⟨s2, e2⟩ : ∃ z, z = pU2 (M 931) n s := ⟨_, rfl⟩
          have g2 : pRead (M 931) n (s.2.2.2.2.2.2.2.2.2 (1 + s.2.2.2.2.2.2.2.2.2 0 - 1) + 1) 999 s1 = s2 := by
            rw [e2]
            rw [pU2, if_neg (by omega), ← e1]
          rw [g2] at hW48
          have k2 := pc_read (lo := (s.2.2.2.2.2.2.2.2.2 (1 + s.2.2.2.2.2.2.2.2.2 0 - 1) + 1)) (hi := 999) hM hI
          rw [g2] at k2
          have hZ := hW48
          have hI := k2.1
          have hD := hD.co hO48
          have v2 := k2.1.2.2.1
          have w2 := k2.1.2.2.2.1
          rw [g2] at hv48
          refine e_iast 52 dX6_readUpto_51 ar_886 (by omega) (by omega) (by omega) rfl ?_
          obtain ⟨Z2, hZ2⟩ : ∃ Y, Y = jset W48 886 (Z 885 0) r48 := ⟨_, rfl⟩
          rw [← hZ2]
          have hZ : CTk M Z2 n s2 := by
            rw [hZ2]
            exact hZ.set (by omega)
          have hD := hD.s6 (i := Z 885 0) (x := r48)
          rw [← hZ2] at hD
          refine e_aload_n (i := 0) 53 dX6_readUpto_52 rfl rfl rfl ?_
          refine e_aload_n (i := 0) 54 dX6_readUpto_53 rfl rfl rfl ?_
          refine e_getr (j := 0) 57 fl_6_12 dX6_readUpto_54 at_882 rfl rfl tp_882_0 rfl ?_
          refine e_ldcS 59 (i := 1) (by decide) rfl rfl dX6_readUpto_57 rfl ?_
          refine e_callV 62 mt_yX9_spells mv_yX9_spells wd_555 (by decide) dX6_readUpto_59 at_883 jc_9 rfl rfl rfl (Nat.le_of_ble_eq_true rfl) (jroom (by decide)) rfl (c_spells_1 hM hZ hI (fun w59 => ?_) (fun w59 => ?_))
          · dsimp only [jpush]
            (try simp (disch := omega) only [jset_k, jset_j, jset_same, true_and, and_true] at w59)
            first
             | (exfalso; omega)
             | (skip
                refine e_callV 65 mt_yX6_pass mv_yX6_pass wd_625 (by decide) dX6_readUpto_62 at_882 jc_6 rfl rfl rfl (Nat.le_of_ble_eq_true rfl) (jroom (by decide)) rfl (c_pass (k := 1) hM hZ hI (by omega) (fun W62 hW62 hO62 => ?_))
                dsimp only [jpush]
                (try simp (disch := omega) only [jset_k, jset_j, jset_same, true_and, and_true] at W62 hW62 hO62)
                obtain ⟨s3, e3⟩ : ∃ z, z = pU3 (M 931) n s := ⟨_, rfl⟩
                have g3 : pMust (M 931) n 1 s2 = s3 := by
                  rw [e3]
                  rw [pU3, ← e2]
                rw [g3] at hW62
                have k3 := pc_must (k := 1) hM hI
                rw [g3] at k3
                have hZ := hW62
                have hI := k3.1
                have hD := hD.co hO62
                have v3 := k3.1.2.2.1
                have w3 := k3.1.2.2.2.1
                refine e_aload_n (i := 0) 66 dX6_readUpto_65 rfl rfl rfl ?_
                refine e_getr (j := 1) 69 fl_6_21 dX6_readUpto_66 at_882 rfl rfl tp_882_1 rfl ?_
                refine e_getr (j := 2) 72 fl_6_98 dX6_readUpto_69 at_885 rfl rfl tp_885_2 rfl ?_
                refine e_iload_n (i := 1) 73 dX6_readUpto_72 rfl rfl rfl ?_
                refine e_aload_n (i := 0) 74 dX6_readUpto_73 rfl rfl rfl ?_
                refine e_iconst 75 dX6_readUpto_74 rfl ?_
                refine e_bipush 77 dX6_readUpto_75 (by decide) rfl ?_
                refine e_callV 80 mt_yX6_passNumber mv_yX6_passNumber wd_620 (by decide) dX6_readUpto_77 at_882 jc_6 rfl rfl rfl (Nat.le_of_ble_eq_true rfl) (jroom (by decide)) rfl (c_pnum hM hZ hI (by omega) (by omega) (fun W77 r77 hW77 hO77 hr77 hv77 => ?_))
                dsimp only [jpush]
                (try simp (disch := omega) only [jset_k, jset_j, jset_same, true_and, and_true] at W77 r77 hW77 hO77 hr77 hv77)
                obtain ⟨s4, e4⟩ : ∃ z, z = pU4 (M 931) n s := ⟨_, rfl⟩
                have g4 : pRead (M 931) n 0 99 s3 = s4 := by
                  rw [e4]
                  rw [pU4, ← e3]
                rw [g4] at hW77
                have k4 := pc_read (lo := 0) (hi := 99) hM hI
                rw [g4] at k4
                have hZ := hW77
                have hI := k4.1
                have hD := hD.co hO77
                have v4 := k4.1.2.2.1
                have w4 := k4.1.2.2.2.1
                rw [g4] at hv77
                refine e_iast 81 dX6_readUpto_80 ar_887 (by omega) (by omega) (by omega) rfl ?_
                obtain ⟨Z4, hZ4⟩ : ∃ Y, Y = jset W77 887 (Z 885 0) r77 := ⟨_, rfl⟩
                rw [← hZ4]
                have hZ : CTk M Z4 n s4 := by
                  rw [hZ4]
                  exact hZ.set (by omega)
                have hD := hD.s7 (i := Z 885 0) (x := r77)
                rw [← hZ4] at hD
                refine e_aload_n (i := 0) 82 dX6_readUpto_81 rfl rfl rfl ?_
                refine e_aload_n (i := 0) 83 dX6_readUpto_82 rfl rfl rfl ?_
                refine e_getr (j := 0) 86 fl_6_12 dX6_readUpto_83 at_882 rfl rfl tp_882_0 rfl ?_
                refine e_ldcS 88 (i := 2) (by decide) rfl rfl dX6_readUpto_86 rfl ?_
                refine e_callV 91 mt_yX9_spells mv_yX9_spells wd_555 (by decide) dX6_readUpto_88 at_883 jc_9 rfl rfl rfl (Nat.le_of_ble_eq_true rfl) (jroom (by decide)) rfl (c_spells_2 hM hZ hI (fun w88 => ?_) (fun w88 => ?_))
                · dsimp only [jpush]
                  (try simp (disch := omega) only [jset_k, jset_j, jset_same, true_and, and_true] at w88)
                  first
                   | (exfalso; omega)
                   | (skip
                      refine e_callV 94 mt_yX6_pass mv_yX6_pass wd_625 (by decide) dX6_readUpto_91 at_882 jc_6 rfl rfl rfl (Nat.le_of_ble_eq_true rfl) (jroom (by decide)) rfl (c_pass (k := 2) hM hZ hI (by omega) (fun W91 hW91 hO91 => ?_))
                      dsimp only [jpush]
                      (try simp (disch := omega) only [jset_k, jset_j, jset_same, true_and, and_true] at W91 hW91 hO91)
                      obtain ⟨s5, e5⟩ : ∃ z, z = pU5 (M 931) n s := ⟨_, rfl⟩
                      have g5 : pMust (M 931) n 2 s4 = s5 := by
                        rw [e5]
                        rw [pU5, ← e4]
                      rw [g5] at hW91
                      have k5 := pc_must (k := 2) hM hI
                      rw [g5] at k5
                      have hZ := hW91
                      have hI := k5.1
                      have hD := hD.co hO91
                      have v5 := k5.1.2.2.1
                      have w5 := k5.1.2.2.2.1
                      refine e_aload_n (i := 0) 95 dX6_readUpto_94 rfl rfl rfl ?_
                      refine e_getr (j := 1) 98 fl_6_21 dX6_readUpto_95 at_882 rfl rfl tp_882_1 rfl ?_
                      refine e_getr (j := 3) 101 fl_6_102 dX6_readUpto_98 at_885 rfl rfl tp_885_3 rfl ?_
                      refine e_iload_n (i := 1) 102 dX6_readUpto_101 rfl rfl rfl ?_
                      refine e_aload_n (i := 0) 103 dX6_readUpto_102 rfl rfl rfl ?_
                      refine e_iconst 104 dX6_readUpto_103 rfl ?_
                      refine e_sipush 107 dX6_readUpto_104 (by decide) rfl ?_
                      refine e_callV 110 mt_yX6_passNumber mv_yX6_passNumber wd_620 (by decide) dX6_readUpto_107 at_882 jc_6 rfl rfl rfl (Nat.le_of_ble_eq_true rfl) (jroom (by decide)) rfl (c_pnum hM hZ hI (by omega) (by omega) (fun W107 r107 hW107 hO107 hr107 hv107 => ?_))
                      dsimp only [jpush]
                      (try simp (disch := omega) only [jset_k, jset_j, jset_same, true_and, and_true] at W107 r107 hW107 hO107 hr107 hv107)
                      obtain ⟨s6, e6⟩ : ∃ z, z = pU6 (M 931) n s := ⟨_, rfl⟩
                      have g6 : pRead (M 931) n 1 999 s5 = s6 := by
                        rw [e6]
                        rw [pU6, ← e5]
                      rw [g6] at hW107
                      have k6 := pc_read (lo := 1) (hi := 999) hM hI
                      rw [g6] at k6
                      have hZ := hW107
                      have hI := k6.1
                      have hD := hD.co hO107
                      have v6 := k6.1.2.2.1
                      have w6 := k6.1.2.2.2.1
                      rw [g6] at hv107
                      refine e_iast 111 dX6_readUpto_110 ar_888 (by omega) (by omega) (by omega) rfl ?_
                      obtain ⟨Z6, hZ6⟩ : ∃ Y, Y = jset W107 888 (Z 885 0) r107 := ⟨_, rfl⟩
                      rw [← hZ6]
                      have hZ : CTk M Z6 n s6 := by
                        rw [hZ6]
                        exact hZ.set (by omega)
                      have hD := hD.s8 (i := Z 885 0) (x := r107)
                      rw [← hZ6] at hD
                      refine e_aload_n (i := 0) 112 dX6_readUpto_111 rfl rfl rfl ?_
                      refine e_getr (j := 1) 115 fl_6_21 dX6_readUpto_112 at_882 rfl rfl tp_882_1 rfl ?_
                      refine e_dup 116 dX6_readUpto_115 rfl rfl ?_
                      refine e_geti (j := 0) 119 fl_6_76 dX6_readUpto_116 at_885 (by decide) rfl rfl (fun r116 => ?_)
                      have dZ := hD.1
                      have e885 : Z6 885 0 = Z 885 0 := by rw [dZ]
                      rw [e885] at r116 ⊢
                      refine e_iconst 120 dX6_readUpto_119 rfl ?_
                      refine e_iadd 121 dX6_readUpto_120 rfl ?_
                      refine e_puti (j := 0) 124 fl_6_76 dX6_readUpto_121 at_885 rfl rfl rfl (by omega) rfl ?_
                      refine e_vret dX6_readUpto_124 ?_
                      have u6 := u6_ok (M := M) (n := n) (s := s)
                      refine h _ ?_ (fun e => ?_)
                      · rw [pUpto, if_neg (by omega), ← e6]
                        split
                        · exact hZ.set (by omega)
                        · have q := hZ.set (k := 885) (i := 0) (v := Z 885 0 + 1) (by omega)
                          rw [e6] at q
                          exact q
                      · have e7 : s6.2.2.2.2.1 = 0 := by
                          rw [pUpto, if_neg (by omega), ← e6] at e
                          by_cases c : s6.2.2.2.2.1 ≠ 0
                          · rw [if_pos c] at e
                            exact e
                          · omega
                        rw [pUpto, if_neg (by omega), ← e6, if_neg (by omega)]
                        have hD := hD.s5 (i := 0) (x := Z 885 0 + 1)
                        rw [l0] at hD
                        rw [← e6] at u6
                        have uu := u6 e7
                        have m5 := must_ok (M := M) (n := n) (s := s4) (k := 2) (by rw [g5]; exact (read_ok (M := M) (n := n) (lo := 1) (hi := 999) (s := s5) (by rw [g6]; exact e7)).1)
                        have m3 := must_ok (M := M) (n := n) (s := s2) (k := 1) (by rw [g3]; exact (read_ok (M := M) (n := n) (lo := 0) (hi := 99) (s := s3) (by rw [g4]; exact m5.1)).1)
                        rw [← l0] at hD
                        refine lw_upto hM hI0 hw hL (by omega) ?_ ?_ ?_ ?_ (by rw [← l0]; exact hD)
                        · rw [← e1]
                          exact hv48 m3.1
                        · rw [← e3]
                          exact hv77 m5.1
                        · rw [← e5]
                          exact hv107 e7
                        · omega)
                · dsimp only [jpush]
                  (try simp (disch := omega) only [jset_k, jset_j, jset_same, true_and, and_true] at w88)
                  first
                   | (exfalso; omega)
                   | (skip
                      refine e_callV 94 mt_yX6_pass mv_yX6_pass wd_625 (by decide) dX6_readUpto_91 at_882 jc_6 rfl rfl rfl (Nat.le_of_ble_eq_true rfl) (jroom (by decide)) rfl (c_pass (k := 2) hM hZ hI (by omega) (fun W91 hW91 hO91 => ?_))
                      dsimp only [jpush]
                      (try simp (disch := omega) only [jset_k, jset_j, jset_same, true_and, and_true] at W91 hW91 hO91)
                      obtain ⟨s5, e5⟩ : ∃ z, z = pU5 (M 931) n s := ⟨_, rfl⟩
                      have g5 : pMust (M 931) n 2 s4 = s5 := by
                        rw [e5]
                        rw [pU5, ← e4]
                      rw [g5] at hW91
                      have k5 := pc_must (k := 2) hM hI
                      rw [g5] at k5
                      have hZ := hW91
                      have hI := k5.1
                      have hD := hD.co hO91
                      have v5 := k5.1.2.2.1
                      have w5 := k5.1.2.2.2.1
                      refine e_aload_n (i := 0) 95 dX6_readUpto_94 rfl rfl rfl ?_
                      refine e_getr (j := 1) 98 fl_6_21 dX6_readUpto_95 at_882 rfl rfl tp_882_1 rfl ?_
                      refine e_getr (j := 3) 101 fl_6_102 dX6_readUpto_98 at_885 rfl rfl tp_885_3 rfl ?_
                      refine e_iload_n (i := 1) 102 dX6_readUpto_101 rfl rfl rfl ?_
                      refine e_aload_n (i := 0) 103 dX6_readUpto_102 rfl rfl rfl ?_
                      refine e_iconst 104 dX6_readUpto_103 rfl ?_
                      refine e_sipush 107 dX6_readUpto_104 (by decide) rfl ?_
                      refine e_callV 110 mt_yX6_passNumber mv_yX6_passNumber wd_620 (by decide) dX6_readUpto_107 at_882 jc_6 rfl rfl rfl (Nat.le_of_ble_eq_true rfl) (jroom (by decide)) rfl (c_pnum hM hZ hI (by omega) (by omega) (fun W107 r107 hW107 hO107 hr107 hv107 => ?_))
                      dsimp only [jpush]
                      (try simp (disch := omega) only [jset_k, jset_j, jset_same, true_and, and_true] at W107 r107 hW107 hO107 hr107 hv107)
                      obtain ⟨s6, e6⟩ : ∃ z, z = pU6 (M 931) n s := ⟨_, rfl⟩
                      have g6 : pRead (M 931) n 1 999 s5 = s6 := by
                        rw [e6]
                        rw [pU6, ← e5]
                      rw [g6] at hW107
                      have k6 := pc_read (lo := 1) (hi := 999) hM hI
                      rw [g6] at k6
                      have hZ := hW107
                      have hI := k6.1
                      have hD := hD.co hO107
                      have v6 := k6.1.2.2.1
                      have w6 := k6.1.2.2.2.1
                      rw [g6] at hv107
                      refine e_iast 111 dX6_readUpto_110 ar_888 (by omega) (by omega) (by omega) rfl ?_
                      obtain ⟨Z6, hZ6⟩ : ∃ Y, Y = jset W107 888 (Z 885 0) r107 := ⟨_, rfl⟩
                      rw [← hZ6]
                      have hZ : CTk M Z6 n s6 := by
                        rw [hZ6]
                        exact hZ.set (by omega)
                      have hD := hD.s8 (i := Z 885 0) (x := r107)
                      rw [← hZ6] at hD
                      refine e_aload_n (i := 0) 112 dX6_readUpto_111 rfl rfl rfl ?_
                      refine e_getr (j := 1) 115 fl_6_21 dX6_readUpto_112 at_882 rfl rfl tp_882_1 rfl ?_
                      refine e_dup 116 dX6_readUpto_115 rfl rfl ?_
                      refine e_geti (j := 0) 119 fl_6_76 dX6_readUpto_116 at_885 (by decide) rfl rfl (fun r116 => ?_)
                      have dZ := hD.1
                      have e885 : Z6 885 0 = Z 885 0 := by rw [dZ]
                      rw [e885] at r116 ⊢
                      refine e_iconst 120 dX6_readUpto_119 rfl ?_
                      refine e_iadd 121 dX6_readUpto_120 rfl ?_
                      refine e_puti (j := 0) 124 fl_6_76 dX6_readUpto_121 at_885 rfl rfl rfl (by omega) rfl ?_
                      refine e_vret dX6_readUpto_124 ?_
                      have u6 := u6_ok (M := M) (n := n) (s := s)
                      refine h _ ?_ (fun e => ?_)
                      · rw [pUpto, if_neg (by omega), ← e6]
                        split
                        · exact hZ.set (by omega)
                        · have q := hZ.set (k := 885) (i := 0) (v := Z 885 0 + 1) (by omega)
                          rw [e6] at q
                          exact q
                      · have e7 : s6.2.2.2.2.1 = 0 := by
                          rw [pUpto, if_neg (by omega), ← e6] at e
                          by_cases c : s6.2.2.2.2.1 ≠ 0
                          · rw [if_pos c] at e
                            exact e
                          · omega
                        rw [pUpto, if_neg (by omega), ← e6, if_neg (by omega)]
                        have hD := hD.s5 (i := 0) (x := Z 885 0 + 1)
                        rw [l0] at hD
                        rw [← e6] at u6
                        have uu := u6 e7
                        have m5 := must_ok (M := M) (n := n) (s := s4) (k := 2) (by rw [g5]; exact (read_ok (M := M) (n := n) (lo := 1) (hi := 999) (s := s5) (by rw [g6]; exact e7)).1)
                        have m3 := must_ok (M := M) (n := n) (s := s2) (k := 1) (by rw [g3]; exact (read_ok (M := M) (n := n) (lo := 0) (hi := 99) (s := s3) (by rw [g4]; exact m5.1)).1)
                        rw [← l0] at hD
                        refine lw_upto hM hI0 hw hL (by omega) ?_ ?_ ?_ ?_ (by rw [← l0]; exact hD)
                        · rw [← e1]
                          exact hv48 m3.1
                        · rw [← e3]
                          exact hv77 m5.1
                        · rw [← e5]
                          exact hv107 e7
                        · omega))
          · dsimp only [jpush]
            (try simp (disch := omega) only [jset_k, jset_j, jset_same, true_and, and_true] at w59)
            first
             | (exfalso; omega)
             | (skip
                refine e_callV 65 mt_yX6_pass mv_yX6_pass wd_625 (by decide) dX6_readUpto_62 at_882 jc_6 rfl rfl rfl (Nat.le_of_ble_eq_true rfl) (jroom (by decide)) rfl (c_pass (k := 1) hM hZ hI (by omega) (fun W62 hW62 hO62 => ?_))
                dsimp only [jpush]
                (try simp (disch := omega) only [jset_k, jset_j, jset_same, true_and, and_true] at W62 hW62 hO62)
                obtain ⟨s3, e3⟩ : ∃ z, z = pU3 (M 931) n s := ⟨_, rfl⟩
                have g3 : pMust (M 931) n 1 s2 = s3 := by
                  rw [e3]
                  rw [pU3, ← e2]
                rw [g3] at hW62
                have k3 := pc_must (k := 1) hM hI
                rw [g3] at k3
                have hZ := hW62
                have hI := k3.1
                have hD := hD.co hO62
                have v3 := k3.1.2.2.1
                have w3 := k3.1.2.2.2.1
                refine e_aload_n (i := 0) 66 dX6_readUpto_65 rfl rfl rfl ?_
                refine e_getr (j := 1) 69 fl_6_21 dX6_readUpto_66 at_882 rfl rfl tp_882_1 rfl ?_
                refine e_getr (j := 2) 72 fl_6_98 dX6_readUpto_69 at_885 rfl rfl tp_885_2 rfl ?_
                refine e_iload_n (i := 1) 73 dX6_readUpto_72 rfl rfl rfl ?_
                refine e_aload_n (i := 0) 74 dX6_readUpto_73 rfl rfl rfl ?_
                refine e_iconst 75 dX6_readUpto_74 rfl ?_
                refine e_bipush 77 dX6_readUpto_75 (by decide) rfl ?_
                refine e_callV 80 mt_yX6_passNumber mv_yX6_passNumber wd_620 (by decide) dX6_readUpto_77 at_882 jc_6 rfl rfl rfl (Nat.le_of_ble_eq_true rfl) (jroom (by decide)) rfl (c_pnum hM hZ hI (by omega) (by omega) (fun W77 r77 hW77 hO77 hr77 hv77 => ?_))
                dsimp only [jpush]
                (try simp (disch := omega) only [jset_k, jset_j, jset_same, true_and, and_true] at W77 r77 hW77 hO77 hr77 hv77)
                obtain ⟨s4, e4⟩ : ∃ z, z = pU4 (M 931) n s := ⟨_, rfl⟩
                have g4 : pRead (M 931) n 0 99 s3 = s4 := by
                  rw [e4]
                  rw [pU4, ← e3]
                rw [g4] at hW77
                have k4 := pc_read (lo := 0) (hi := 99) hM hI
                rw [g4] at k4
                have hZ := hW77
                have hI := k4.1
                have hD := hD.co hO77
                have v4 := k4.1.2.2.1
                have w4 := k4.1.2.2.2.1
                rw [g4] at hv77
                refine e_iast 81 dX6_readUpto_80 ar_887 (by omega) (by omega) (by omega) rfl ?_
                obtain ⟨Z4, hZ4⟩ : ∃ Y, Y = jset W77 887 (Z 885 0) r77 := ⟨_, rfl⟩
                rw [← hZ4]
                have hZ : CTk M Z4 n s4 := by
                  rw [hZ4]
                  exact hZ.set (by omega)
                have hD := hD.s7 (i := Z 885 0) (x := r77)
                rw [← hZ4] at hD
                refine e_aload_n (i := 0) 82 dX6_readUpto_81 rfl rfl rfl ?_
                refine e_aload_n (i := 0) 83 dX6_readUpto_82 rfl rfl rfl ?_
                refine e_getr (j := 0) 86 fl_6_12 dX6_readUpto_83 at_882 rfl rfl tp_882_0 rfl ?_
                refine e_ldcS 88 (i := 2) (by decide) rfl rfl dX6_readUpto_86 rfl ?_
                refine e_callV 91 mt_yX9_spells mv_yX9_spells wd_555 (by decide) dX6_readUpto_88 at_883 jc_9 rfl rfl rfl (Nat.le_of_ble_eq_true rfl) (jroom (by decide)) rfl (c_spells_2 hM hZ hI (fun w88 => ?_) (fun w88 => ?_))
                · dsimp only [jpush]
                  (try simp (disch := omega) only [jset_k, jset_j, jset_same, true_and, and_true] at w88)
                  first
                   | (exfalso; omega)
                   | (skip
                      refine e_callV 94 mt_yX6_pass mv_yX6_pass wd_625 (by decide) dX6_readUpto_91 at_882 jc_6 rfl rfl rfl (Nat.le_of_ble_eq_true rfl) (jroom (by decide)) rfl (c_pass (k := 2) hM hZ hI (by omega) (fun W91 hW91 hO91 => ?_))
                      dsimp only [jpush]
                      (try simp (disch := omega) only [jset_k, jset_j, jset_same, true_and, and_true] at W91 hW91 hO91)
                      obtain ⟨s5, e5⟩ : ∃ z, z = pU5 (M 931) n s := ⟨_, rfl⟩
                      have g5 : pMust (M 931) n 2 s4 = s5 := by
                        rw [e5]
                        rw [pU5, ← e4]
                      rw [g5] at hW91
                      have k5 := pc_must (k := 2) hM hI
                      rw [g5] at k5
                      have hZ := hW91
                      have hI := k5.1
                      have hD := hD.co hO91
                      have v5 := k5.1.2.2.1
                      have w5 := k5.1.2.2.2.1
                      refine e_aload_n (i := 0) 95 dX6_readUpto_94 rfl rfl rfl ?_
                      refine e_getr (j := 1) 98 fl_6_21 dX6_readUpto_95 at_882 rfl rfl tp_882_1 rfl ?_
                      refine e_getr (j := 3) 101 fl_6_102 dX6_readUpto_98 at_885 rfl rfl tp_885_3 rfl ?_
                      refine e_iload_n (i := 1) 102 dX6_readUpto_101 rfl rfl rfl ?_
                      refine e_aload_n (i := 0) 103 dX6_readUpto_102 rfl rfl rfl ?_
                      refine e_iconst 104 dX6_readUpto_103 rfl ?_
                      refine e_sipush 107 dX6_readUpto_104 (by decide) rfl ?_
                      refine e_callV 110 mt_yX6_passNumber mv_yX6_passNumber wd_620 (by decide) dX6_readUpto_107 at_882 jc_6 rfl rfl rfl (Nat.le_of_ble_eq_true rfl) (jroom (by decide)) rfl (c_pnum hM hZ hI (by omega) (by omega) (fun W107 r107 hW107 hO107 hr107 hv107 => ?_))
                      dsimp only [jpush]
                      (try simp (disch := omega) only [jset_k, jset_j, jset_same, true_and, and_true] at W107 r107 hW107 hO107 hr107 hv107)
                      obtain ⟨s6, e6⟩ : ∃ z, z = pU6 (M 931) n s := ⟨_, rfl⟩
                      have g6 : pRead (M 931) n 1 999 s5 = s6 := by
                        rw [e6]
                        rw [pU6, ← e5]
                      rw [g6] at hW107
                      have k6 := pc_read (lo := 1) (hi := 999) hM hI
                      rw [g6] at k6
                      have hZ := hW107
                      have hI := k6.1
                      have hD := hD.co hO107
                      have v6 := k6.1.2.2.1
                      have w6 := k6.1.2.2.2.1
                      rw [g6] at hv107
                      refine e_iast 111 dX6_readUpto_110 ar_888 (by omega) (by omega) (by omega) rfl ?_
                      obtain ⟨Z6, hZ6⟩ : ∃ Y, Y = jset W107 888 (Z 885 0) r107 := ⟨_, rfl⟩
                      rw [← hZ6]
                      have hZ : CTk M Z6 n s6 := by
                        rw [hZ6]
                        exact hZ.set (by omega)
                      have hD := hD.s8 (i := Z 885 0) (x := r107)
                      rw [← hZ6] at hD
                      refine e_aload_n (i := 0) 112 dX6_readUpto_111 rfl rfl rfl ?_
                      refine e_getr (j := 1) 115 fl_6_21 dX6_readUpto_112 at_882 rfl rfl tp_882_1 rfl ?_
                      refine e_dup 116 dX6_readUpto_115 rfl rfl ?_
                      refine e_geti (j := 0) 119 fl_6_76 dX6_readUpto_116 at_885 (by decide) rfl rfl (fun r116 => ?_)
                      have dZ := hD.1
                      have e885 : Z6 885 0 = Z 885 0 := by rw [dZ]
                      rw [e885] at r116 ⊢
                      refine e_iconst 120 dX6_readUpto_119 rfl ?_
                      refine e_iadd 121 dX6_readUpto_120 rfl ?_
                      refine e_puti (j := 0) 124 fl_6_76 dX6_readUpto_121 at_885 rfl rfl rfl (by omega) rfl ?_
                      refine e_vret dX6_readUpto_124 ?_
                      have u6 := u6_ok (M := M) (n := n) (s := s)
                      refine h _ ?_ (fun e => ?_)
                      · rw [pUpto, if_neg (by omega), ← e6]
                        split
                        · exact hZ.set (by omega)
                        · have q := hZ.set (k := 885) (i := 0) (v := Z 885 0 + 1) (by omega)
                          rw [e6] at q
                          exact q
                      · have e7 : s6.2.2.2.2.1 = 0 := by
                          rw [pUpto, if_neg (by omega), ← e6] at e
                          by_cases c : s6.2.2.2.2.1 ≠ 0
                          · rw [if_pos c] at e
                            exact e
                          · omega
                        rw [pUpto, if_neg (by omega), ← e6, if_neg (by omega)]
                        have hD := hD.s5 (i := 0) (x := Z 885 0 + 1)
                        rw [l0] at hD
                        rw [← e6] at u6
                        have uu := u6 e7
                        have m5 := must_ok (M := M) (n := n) (s := s4) (k := 2) (by rw [g5]; exact (read_ok (M := M) (n := n) (lo := 1) (hi := 999) (s := s5) (by rw [g6]; exact e7)).1)
                        have m3 := must_ok (M := M) (n := n) (s := s2) (k := 1) (by rw [g3]; exact (read_ok (M := M) (n := n) (lo := 0) (hi := 99) (s := s3) (by rw [g4]; exact m5.1)).1)
                        rw [← l0] at hD
                        refine lw_upto hM hI0 hw hL (by omega) ?_ ?_ ?_ ?_ (by rw [← l0]; exact hD)
                        · rw [← e1]
                          exact hv48 m3.1
                        · rw [← e3]
                          exact hv77 m5.1
                        · rw [← e5]
                          exact hv107 e7
                        · omega)
                · dsimp only [jpush]
                  (try simp (disch := omega) only [jset_k, jset_j, jset_same, true_and, and_true] at w88)
                  first
                   | (exfalso; omega)
                   | (skip
                      refine e_callV 94 mt_yX6_pass mv_yX6_pass wd_625 (by decide) dX6_readUpto_91 at_882 jc_6 rfl rfl rfl (Nat.le_of_ble_eq_true rfl) (jroom (by decide)) rfl (c_pass (k := 2) hM hZ hI (by omega) (fun W91 hW91 hO91 => ?_))
                      dsimp only [jpush]
                      (try simp (disch := omega) only [jset_k, jset_j, jset_same, true_and, and_true] at W91 hW91 hO91)
                      obtain ⟨s5, e5⟩ : ∃ z, z = pU5 (M 931) n s := ⟨_, rfl⟩
                      have g5 : pMust (M 931) n 2 s4 = s5 := by
                        rw [e5]
                        rw [pU5, ← e4]
                      rw [g5] at hW91
                      have k5 := pc_must (k := 2) hM hI
                      rw [g5] at k5
                      have hZ := hW91
                      have hI := k5.1
                      have hD := hD.co hO91
                      have v5 := k5.1.2.2.1
                      have w5 := k5.1.2.2.2.1
                      refine e_aload_n (i := 0) 95 dX6_readUpto_94 rfl rfl rfl ?_
                      refine e_getr (j := 1) 98 fl_6_21 dX6_readUpto_95 at_882 rfl rfl tp_882_1 rfl ?_
                      refine e_getr (j := 3) 101 fl_6_102 dX6_readUpto_98 at_885 rfl rfl tp_885_3 rfl ?_
                      refine e_iload_n (i := 1) 102 dX6_readUpto_101 rfl rfl rfl ?_
                      refine e_aload_n (i := 0) 103 dX6_readUpto_102 rfl rfl rfl ?_
                      refine e_iconst 104 dX6_readUpto_103 rfl ?_
                      refine e_sipush 107 dX6_readUpto_104 (by decide) rfl ?_
                      refine e_callV 110 mt_yX6_passNumber mv_yX6_passNumber wd_620 (by decide) dX6_readUpto_107 at_882 jc_6 rfl rfl rfl (Nat.le_of_ble_eq_true rfl) (jroom (by decide)) rfl (c_pnum hM hZ hI (by omega) (by omega) (fun W107 r107 hW107 hO107 hr107 hv107 => ?_))
                      dsimp only [jpush]
                      (try simp (disch := omega) only [jset_k, jset_j, jset_same, true_and, and_true] at W107 r107 hW107 hO107 hr107 hv107)
                      obtain ⟨s6, e6⟩ : ∃ z, z = pU6 (M 931) n s := ⟨_, rfl⟩
                      have g6 : pRead (M 931) n 1 999 s5 = s6 := by
                        rw [e6]
                        rw [pU6, ← e5]
                      rw [g6] at hW107
                      have k6 := pc_read (lo := 1) (hi := 999) hM hI
                      rw [g6] at k6
                      have hZ := hW107
                      have hI := k6.1
                      have hD := hD.co hO107
                      have v6 := k6.1.2.2.1
                      have w6 := k6.1.2.2.2.1
                      rw [g6] at hv107
                      refine e_iast 111 dX6_readUpto_110 ar_888 (by omega) (by omega) (by omega) rfl ?_
                      obtain ⟨Z6, hZ6⟩ : ∃ Y, Y = jset W107 888 (Z 885 0) r107 := ⟨_, rfl⟩
                      rw [← hZ6]
                      have hZ : CTk M Z6 n s6 := by
                        rw [hZ6]
                        exact hZ.set (by omega)
                      have hD := hD.s8 (i := Z 885 0) (x := r107)
                      rw [← hZ6] at hD
                      refine e_aload_n (i := 0) 112 dX6_readUpto_111 rfl rfl rfl ?_
                      refine e_getr (j := 1) 115 fl_6_21 dX6_readUpto_112 at_882 rfl rfl tp_882_1 rfl ?_
                      refine e_dup 116 dX6_readUpto_115 rfl rfl ?_
                      refine e_geti (j := 0) 119 fl_6_76 dX6_readUpto_116 at_885 (by decide) rfl rfl (fun r116 => ?_)
                      have dZ := hD.1
                      have e885 : Z6 885 0 = Z 885 0 := by rw [dZ]
                      rw [e885] at r116 ⊢
                      refine e_iconst 120 dX6_readUpto_119 rfl ?_
                      refine e_iadd 121 dX6_readUpto_120 rfl ?_
                      refine e_puti (j := 0) 124 fl_6_76 dX6_readUpto_121 at_885 rfl rfl rfl (by omega) rfl ?_
                      refine e_vret dX6_readUpto_124 ?_
                      have u6 := u6_ok (M := M) (n := n) (s := s)
                      refine h _ ?_ (fun e => ?_)
                      · rw [pUpto, if_neg (by omega), ← e6]
                        split
                        · exact hZ.set (by omega)
                        · have q := hZ.set (k := 885) (i := 0) (v := Z 885 0 + 1) (by omega)
                          rw [e6] at q
                          exact q
                      · have e7 : s6.2.2.2.2.1 = 0 := by
                          rw [pUpto, if_neg (by omega), ← e6] at e
                          by_cases c : s6.2.2.2.2.1 ≠ 0
                          · rw [if_pos c] at e
                            exact e
                          · omega
                        rw [pUpto, if_neg (by omega), ← e6, if_neg (by omega)]
                        have hD := hD.s5 (i := 0) (x := Z 885 0 + 1)
                        rw [l0] at hD
                        rw [← e6] at u6
                        have uu := u6 e7
                        have m5 := must_ok (M := M) (n := n) (s := s4) (k := 2) (by rw [g5]; exact (read_ok (M := M) (n := n) (lo := 1) (hi := 999) (s := s5) (by rw [g6]; exact e7)).1)
                        have m3 := must_ok (M := M) (n := n) (s := s2) (k := 1) (by rw [g3]; exact (read_ok (M := M) (n := n) (lo := 0) (hi := 99) (s := s3) (by rw [g4]; exact m5.1)).1)
                        rw [← l0] at hD
                        refine lw_upto hM hI0 hw hL (by omega) ?_ ?_ ?_ ?_ (by rw [← l0]; exact hD)
                        · rw [← e1]
                          exact hv48 m3.1
                        · rw [← e3]
                          exact hv77 m5.1
                        · rw [← e5]
                          exact hv107 e7
                        · omega)))
    · first
       | (exfalso; omega)
       | (skip
          refine e_aload_n (i := 0) 15 dX6_readUpto_14 rfl rfl rfl ?_
          refine e_iconst 16 dX6_readUpto_15 rfl ?_
          refine e_callV 19 mt_yX6_refuse mv_yX6_refuse wd_611 (by decide) dX6_readUpto_16 at_882 jc_6 rfl rfl rfl (Nat.le_of_ble_eq_true rfl) (jroom (by decide)) rfl (c_rfs hM hZ hI (by omega) (by omega) (fun W16 hW16 hO16 => ?_))
          dsimp only [jpush]
          (try simp (disch := omega) only [jset_k, jset_j, jset_same, true_and, and_true] at W16 hW16 hO16)
          refine e_vret dX6_readUpto_19 ?_
          first
            | (exfalso; omega)
            | (have e : pUpto (M 931) n s = pFail 4 s := by
                 rw [pUpto, if_pos (by omega)]
               rw [e] at h
               exact h _ hW16 (fun q => absurd q (pk_fail (f := 4) (by omega) hI).2)))

