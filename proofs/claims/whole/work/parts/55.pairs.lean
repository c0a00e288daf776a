/-! PAIRS: worst, foresee -/
theorem w32_w32l {a b : Int} : w32 (w32 a + b) = w32 (a + b) := by unfold w32; omega
def wSum (d : Int → Int) : Nat → Int → Int
  | 0, _ => 0
  | n + 1, w => wSum d n w + d (w + n)
theorem wSum_s {d : Int → Int} : ∀ (n : Nat) (w : Int), wSum d n (w + 1) = wSum d n w + d (w + n) - d w
  | 0, w => by
    unfold wSum
    rw [show w + ((0 : Nat) : Int) = w by omega]
    omega
  | n + 1, w => by
    rw [wSum, wSum_s n w, wSum, show w + 1 + (n : Int) = w + ((n + 1 : Nat) : Int) by omega]
    omega
def rWorst (d : Int → Int) (n : Nat) (what : Int) : Nat → Int → Int → Int → Int
  | 0, _, b, m => if what = 0 then b else m
  | f + 1, w, b, m => if m < w32 (wSum d n w) then rWorst d n what f (w + 1) w (w32 (wSum d n w)) else rWorst d n what f (w + 1) b m
def rLB (a : Int → Int) (w : Int) : Int := a (1782 + w) - a (3287 + w)
theorem c_lessBack {w : Int} {M : jM} {Q : Int → jM → Prop} (hC : CR M) (hw : 0 ≤ w ∧ w ≤ 300) (h : Q (rLB (M 929) w) M) : jCt yX8_lentLessBack cX8_lentLessBack 2 (some .int) 1 [jR 1, jI w] M Q := by
  refine jCt_of mt_yX8_lentLessBack (Nat.le_of_ble_eq_true rfl) (fun X => ?_)
  have hb := hC.bk hw.1 (by omega)
  have q0 : M (32 + 0) w = M 929 (1782 + w) := hb.1
  have q5 : M (32 + 5) w = M 929 (3287 + w) := hb.2.2.2.2.2
  refine e_aload_n (i := 0) 1 dX8_lentLessBack_0 rfl rfl rfl ?_
  refine e_getr (j := 15) 4 fl_8_57 dX8_lentLessBack_1 at_1 rfl rfl tp_1_15 rfl ?_
  refine e_iconst 5 dX8_lentLessBack_4 rfl ?_
  refine e_aaldi 6 dX8_lentLessBack_5 ar_31 (by decide) (by decide) (tp_bookrow (by decide) (by decide)) rfl ?_
  refine e_iload_n (i := 1) 7 dX8_lentLessBack_6 rfl rfl rfl ?_
  refine e_iald 8 dX8_lentLessBack_7 (ar_bookrow (by decide) (by decide)) (by omega) (by omega) rfl (fun r7 => ?_)
  refine e_aload_n (i := 0) 9 dX8_lentLessBack_8 rfl rfl rfl ?_
  refine e_getr (j := 15) 12 fl_8_57 dX8_lentLessBack_9 at_1 rfl rfl tp_1_15 rfl ?_
  refine e_iconst 13 dX8_lentLessBack_12 rfl ?_
  refine e_aaldi 14 dX8_lentLessBack_13 ar_31 (by decide) (by decide) (tp_bookrow (by decide) (by decide)) rfl ?_
  refine e_iload_n (i := 1) 15 dX8_lentLessBack_14 rfl rfl rfl ?_
  refine e_iald 16 dX8_lentLessBack_15 (ar_bookrow (by decide) (by decide)) (by omega) (by omega) rfl (fun r15 => ?_)
  refine e_isub 17 dX8_lentLessBack_16 rfl ?_
  refine e_iret dX8_lentLessBack_17 ?_
  first | (rw [q0, q5]; exact h) | (rw [hb.1, hb.2.2.2.2.2]; exact h)

theorem l_worst1 {X : jX} {n what : Int} {M : jM} {Q : Int → jM → Prop} (hC : CR M) (hn1 : 1 ≤ n ∧ n ≤ 52 ∧ n ≤ M 929 708 + 1) (h : jE X yX11_worst cX11_worst 7 (some .int) 2 Q M 67 [(0, jR 0), (1, jI n), (2, jI what), (3, jI (w32 (wSum (rLB (M 929)) n.toNat 0))), (4, jI n)] []) : ∀ (f i : Nat), (i : Int) + f = n → ∀ s ii : Int, ii = i → s = w32 (wSum (rLB (M 929)) i 0) → jE X yX11_worst cX11_worst 7 (some .int) 2 Q M 43 [(0, jR 0), (1, jI n), (2, jI what), (3, jI s), (4, jI ii)] [] := by
  intro f
  have hg := hC.rng
  induction f with
  | zero =>
    intro i hi s ii hii hs
    have e : n.toNat = i := by omega
    have e2 : ii = n := by omega
    rw [e, ← hs] at h
    rw [e2]
    refine e_iload 45 dX11_worst_43 rfl rfl ?_
    refine e_iload_n (i := 1) 46 dX11_worst_45 rfl rfl rfl ?_
    refine e_icmp_ge 49 67 dX11_worst_46 (by omega) (by omega) (by decide) rfl (fun b46 => ?_) (fun b46 => ?_)
    · skip
      exact h
    · omega
  | succ f ih =>
    intro i hi s ii hii hs
    refine e_iload 45 dX11_worst_43 rfl rfl ?_
    refine e_iload_n (i := 1) 46 dX11_worst_45 rfl rfl rfl ?_
    refine e_icmp_ge 49 67 dX11_worst_46 (by omega) (by omega) (by decide) rfl (fun b46 => ?_) (fun b46 => ?_)
    · omega
    · skip
      refine e_iload_n (i := 3) 50 dX11_worst_49 rfl rfl rfl ?_
      refine e_aload_n (i := 0) 51 dX11_worst_50 rfl rfl rfl ?_
      refine e_getr (j := 0) 54 fl_11_10 dX11_worst_51 at_0 rfl rfl tp_0_0 rfl ?_
      refine e_iload 56 dX11_worst_54 rfl rfl ?_
      refine e_callV 59 mt_yX8_lentLessBack mv_yX8_lentLessBack wd_1102 (by decide) dX11_worst_56 at_1 jc_8 rfl rfl rfl (Nat.le_of_ble_eq_true rfl) (jroom (by decide)) rfl (c_lessBack hC (by omega) ?_)
      dsimp only [jpush]
      refine e_iadd 60 dX11_worst_59 rfl ?_
      refine e_w32 ?_
      refine e_istore_n (i := 3) (lsn := [(3, _), (0, _), (1, _), (2, _), (4, _)]) 61 dX11_worst_60 rfl (by decide) rfl rfl ?_
      refine e_iinc (lsn := [(4, _), (3, _), (0, _), (1, _), (2, _)]) 64 dX11_worst_61 rfl (by decide) rfl rfl ?_
      refine e_goto 43 dX11_worst_64 (by decide) ?_
      refine e_ls (ls2 := [(0, _), (1, _), (2, _), (3, _), (4, _)]) rfl ?_
      exact ih (i + 1) (by omega) _ _ (by omega) (by rw [wSum, hs, w32_w32l, hii, Int.zero_add])

theorem l_worst2 {X : jX} {n what : Int} {M : jM} {Q : Int → jM → Prop} (hC : CR M) (hn1 : 1 ≤ n ∧ n ≤ 52 ∧ n ≤ M 929 708 + 1) (hwh : -2147483648 ≤ what ∧ what ≤ 2147483647) : ∀ (f : Nat) (ii s b mo : Int), 1 ≤ ii → (f : Int) = M 929 708 + 2 - n - ii → s = w32 (wSum (rLB (M 929)) n.toNat (ii - 1)) → (-2147483648 ≤ mo ∧ mo ≤ 2147483647) → Q (rWorst (rLB (M 929)) n.toNat what f ii b mo) M → jE X yX11_worst cX11_worst 7 (some .int) 2 Q M 76 [(0, jR 0), (1, jI n), (2, jI what), (3, jI s), (4, jI b), (5, jI mo), (6, jI ii)] [] := by
  intro f
  have hn := hC.cnt
  have hg := hC.rng
  induction f with
  | zero =>
    intro ii s b mo h1 hf hs hm h
    rw [rWorst] at h
    refine e_iload 78 dX11_worst_76 rfl rfl ?_
    refine e_iload_n (i := 1) 79 dX11_worst_78 rfl rfl rfl ?_
    refine e_iadd 80 dX11_worst_79 rfl ?_
    refine e_aload_n (i := 0) 81 dX11_worst_80 rfl rfl rfl ?_
    refine e_getr (j := 0) 84 fl_11_10 dX11_worst_81 at_0 rfl rfl tp_0_0 rfl ?_
    refine e_geti (j := 4) 87 fl_11_174 dX11_worst_84 at_1 (by decide) rfl rfl (fun r84 => ?_)
    refine e_iconst 88 dX11_worst_87 rfl ?_
    refine e_iadd 89 dX11_worst_88 rfl ?_
    refine e_icmp_gt 92 139 dX11_worst_89 (by omega) (by omega) (by decide) rfl (fun b89 => ?_) (fun b89 => ?_)
    · skip
      refine e_iload_n (i := 2) 140 dX11_worst_139 rfl rfl rfl ?_
      refine e_if_ne 143 148 dX11_worst_140 (by omega) (by decide) rfl (fun b140 => ?_) (fun b140 => ?_)
      · skip
        refine e_iload 150 dX11_worst_148 rfl rfl ?_
        refine e_iret dX11_worst_150 ?_
        rw [if_neg (by omega)] at h
        exact h
      · skip
        refine e_iload 145 dX11_worst_143 rfl rfl ?_
        refine e_goto 150 dX11_worst_145 (by decide) ?_
        refine e_iret dX11_worst_150 ?_
        rw [if_pos (by omega)] at h
        exact h
    · omega
  | succ f ih =>
    intro ii s b mo h1 hf hs hm h
    have es : w32 (s + (rLB (M 929) (ii + n - 1) - rLB (M 929) (ii - 1))) = w32 (wSum (rLB (M 929)) n.toNat ii) := by
      have e := wSum_s (d := rLB (M 929)) n.toNat (ii - 1)
      rw [show ii - 1 + 1 = ii by omega, show ii - 1 + (n.toNat : Int) = ii + n - 1 by omega] at e
      rw [hs, w32_w32l, e]
      congr 1
      omega
    have hr := w32_in (wSum (rLB (M 929)) n.toNat ii)
    rw [rWorst] at h
    refine e_iload 78 dX11_worst_76 rfl rfl ?_
    refine e_iload_n (i := 1) 79 dX11_worst_78 rfl rfl rfl ?_
    refine e_iadd 80 dX11_worst_79 rfl ?_
    refine e_aload_n (i := 0) 81 dX11_worst_80 rfl rfl rfl ?_
    refine e_getr (j := 0) 84 fl_11_10 dX11_worst_81 at_0 rfl rfl tp_0_0 rfl ?_
    refine e_geti (j := 4) 87 fl_11_174 dX11_worst_84 at_1 (by decide) rfl rfl (fun r84 => ?_)
    refine e_iconst 88 dX11_worst_87 rfl ?_
    refine e_iadd 89 dX11_worst_88 rfl ?_
    refine e_icmp_gt 92 139 dX11_worst_89 (by omega) (by omega) (by decide) rfl (fun b89 => ?_) (fun b89 => ?_)
    · omega
    · skip
      refine e_iload_n (i := 3) 93 dX11_worst_92 rfl rfl rfl ?_
      refine e_aload_n (i := 0) 94 dX11_worst_93 rfl rfl rfl ?_
      refine e_getr (j := 0) 97 fl_11_10 dX11_worst_94 at_0 rfl rfl tp_0_0 rfl ?_
      refine e_iload 99 dX11_worst_97 rfl rfl ?_
      refine e_iload_n (i := 1) 100 dX11_worst_99 rfl rfl rfl ?_
      refine e_iadd 101 dX11_worst_100 rfl ?_
      refine e_iconst 102 dX11_worst_101 rfl ?_
      refine e_isub 103 dX11_worst_102 rfl ?_
      refine e_callV 106 mt_yX8_lentLessBack mv_yX8_lentLessBack wd_1102 (by decide) dX11_worst_103 at_1 jc_8 rfl rfl rfl (Nat.le_of_ble_eq_true rfl) (jroom (by decide)) rfl (c_lessBack hC (by omega) ?_)
      dsimp only [jpush]
      refine e_aload_n (i := 0) 107 dX11_worst_106 rfl rfl rfl ?_
      refine e_getr (j := 0) 110 fl_11_10 dX11_worst_107 at_0 rfl rfl tp_0_0 rfl ?_
      refine e_iload 112 dX11_worst_110 rfl rfl ?_
      refine e_iconst 113 dX11_worst_112 rfl ?_
      refine e_isub 114 dX11_worst_113 rfl ?_
      refine e_callV 117 mt_yX8_lentLessBack mv_yX8_lentLessBack wd_1102 (by decide) dX11_worst_114 at_1 jc_8 rfl rfl rfl (Nat.le_of_ble_eq_true rfl) (jroom (by decide)) rfl (c_lessBack hC (by omega) ?_)
      dsimp only [jpush]
      refine e_isub 118 dX11_worst_117 rfl ?_
      refine e_iadd 119 dX11_worst_118 rfl ?_
      refine e_w32 ?_
      rw [es]
      refine e_istore_n (i := 3) (lsn := [(3, _), (0, _), (1, _), (2, _), (4, _), (5, _), (6, _)]) 120 dX11_worst_119 rfl (by decide) rfl rfl ?_
      refine e_iload_n (i := 3) 121 dX11_worst_120 rfl rfl rfl ?_
      refine e_iload 123 dX11_worst_121 rfl rfl ?_
      refine e_icmp_le 126 133 dX11_worst_123 (by omega) (by omega) (by decide) rfl (fun b123 => ?_) (fun b123 => ?_)
      · skip
        refine e_iinc (lsn := [(6, _), (3, _), (0, _), (1, _), (2, _), (4, _), (5, _)]) 136 dX11_worst_133 rfl (by decide) rfl rfl ?_
        refine e_goto 76 dX11_worst_136 (by decide) ?_
        refine e_ls (ls2 := [(0, _), (1, _), (2, _), (3, _), (4, _), (5, _), (6, _)]) rfl ?_
        rw [if_neg (by omega)] at h
        exact ih _ _ _ _ (by omega) (by omega) (by rw [show ii + 1 - 1 = ii by omega]) (by omega) h
      · skip
        refine e_iload_n (i := 3) 127 dX11_worst_126 rfl rfl rfl ?_
        refine e_istore (lsn := [(5, _), (3, _), (0, _), (1, _), (2, _), (4, _), (6, _)]) 129 dX11_worst_127 (by decide) rfl rfl ?_
        refine e_iload 131 dX11_worst_129 rfl rfl ?_
        refine e_istore (lsn := [(4, _), (5, _), (3, _), (0, _), (1, _), (2, _), (6, _)]) 133 dX11_worst_131 (by decide) rfl rfl ?_
        refine e_iinc (lsn := [(6, _), (4, _), (5, _), (3, _), (0, _), (1, _), (2, _)]) 136 dX11_worst_133 rfl (by decide) rfl rfl ?_
        refine e_goto 76 dX11_worst_136 (by decide) ?_
        refine e_ls (ls2 := [(0, _), (1, _), (2, _), (3, _), (4, _), (5, _), (6, _)]) rfl ?_
        rw [if_pos (by omega)] at h
        exact ih _ _ _ _ (by omega) (by omega) (by rw [show ii + 1 - 1 = ii by omega]) (by omega) h

theorem c_worst {n what : Int} {M : jM} {Q : Int → jM → Prop} (hC : CR M) (hnn : -2147483648 ≤ n ∧ n ≤ 2147483647) (hwh : -2147483648 ≤ what ∧ what ≤ 2147483647) (h2 : what < 0 ∨ 1 < what → Q (-2) M) (h3 : (0 ≤ what ∧ what ≤ 1) ∧ (n < 1 ∨ 52 < n ∨ M 929 708 + 1 < n) → Q (-3) M) (h0 : (0 ≤ what ∧ what ≤ 1) ∧ 1 ≤ n ∧ n ≤ 52 ∧ n ≤ M 929 708 + 1 → Q (rWorst (rLB (M 929)) n.toNat what (M 929 708 + 1 - n).toNat 1 0 (w32 (wSum (rLB (M 929)) n.toNat 0))) M) : jCt yX11_worst cX11_worst 7 (some .int) 2 [jR 0, jI n, jI what] M Q := by
  refine jCt_of mt_yX11_worst (Nat.le_of_ble_eq_true rfl) (fun X => ?_)
  have hn := hC.cnt
  have hg := hC.rng
  refine e_iload_n (i := 2) 1 dX11_worst_0 rfl rfl rfl ?_
  refine e_iconst 2 dX11_worst_1 rfl ?_
  refine e_iconst 3 dX11_worst_2 rfl ?_
  refine e_callS 6 mt_yX11_within ms_yX11_within wd_531 (by decide) dX11_worst_3 rfl rfl (Nat.le_of_ble_eq_true rfl) (jroom (by decide)) rfl (c_within (by omega) (by omega) (by omega) (fun w3 => ?_) (fun w3 => ?_))
  · dsimp only [jpush]
    refine e_if_ne 9 12 dX11_worst_6 (by decide) (by decide) rfl (fun _ => ?_) (fun h => absurd h (by decide))
    refine e_iload_n (i := 1) 13 dX11_worst_12 rfl rfl rfl ?_
    refine e_iconst 14 dX11_worst_13 rfl ?_
    refine e_bipush 16 dX11_worst_14 (by decide) rfl ?_
    refine e_callS 19 mt_yX11_within ms_yX11_within wd_531 (by decide) dX11_worst_16 rfl rfl (Nat.le_of_ble_eq_true rfl) (jroom (by decide)) rfl (c_within (by omega) (by omega) (by omega) (fun w16 => ?_) (fun w16 => ?_))
    · dsimp only [jpush]
      refine e_if_eq 22 35 dX11_worst_19 (by decide) (by decide) rfl (fun h => absurd h (by decide)) (fun _ => ?_)
      refine e_iload_n (i := 1) 23 dX11_worst_22 rfl rfl rfl ?_
      refine e_aload_n (i := 0) 24 dX11_worst_23 rfl rfl rfl ?_
      refine e_getr (j := 0) 27 fl_11_10 dX11_worst_24 at_0 rfl rfl tp_0_0 rfl ?_
      refine e_geti (j := 4) 30 fl_11_174 dX11_worst_27 at_1 (by decide) rfl rfl (fun r27 => ?_)
      refine e_iconst 31 dX11_worst_30 rfl ?_
      refine e_iadd 32 dX11_worst_31 rfl ?_
      refine e_icmp_le 35 38 dX11_worst_32 (by omega) (by omega) (by decide) rfl (fun b32 => ?_) (fun b32 => ?_)
      · skip
        refine e_iconst 39 dX11_worst_38 rfl ?_
        refine e_istore_n (i := 3) (lsn := [(3, _), (0, _), (1, _), (2, _)]) 40 dX11_worst_39 rfl (by decide) rfl rfl ?_
        refine e_iconst 41 dX11_worst_40 rfl ?_
        refine e_istore (lsn := [(4, _), (3, _), (0, _), (1, _), (2, _)]) 43 dX11_worst_41 (by decide) rfl rfl ?_
        refine e_ls (ls2 := [(0, _), (1, _), (2, _), (3, _), (4, _)]) rfl ?_
        refine l_worst1 hC (by omega) ?_ n.toNat 0 (by omega) _ _ rfl rfl
        refine e_iconst 68 dX11_worst_67 rfl ?_
        refine e_istore (lsn := [(4, _), (0, _), (1, _), (2, _), (3, _)]) 70 dX11_worst_68 (by decide) rfl rfl ?_
        refine e_iload_n (i := 3) 71 dX11_worst_70 rfl rfl rfl ?_
        refine e_istore (lsn := [(5, _), (4, _), (0, _), (1, _), (2, _), (3, _)]) 73 dX11_worst_71 (by decide) rfl rfl ?_
        refine e_iconst 74 dX11_worst_73 rfl ?_
        refine e_istore (lsn := [(6, _), (5, _), (4, _), (0, _), (1, _), (2, _), (3, _)]) 76 dX11_worst_74 (by decide) rfl rfl ?_
        refine e_ls (ls2 := [(0, _), (1, _), (2, _), (3, _), (4, _), (5, _), (6, _)]) rfl ?_
        exact l_worst2 hC (by omega) hwh (M 929 708 + 1 - n).toNat 1 _ 0 _ (by omega) (by omega) rfl (w32_in _) (h0 (by omega))
      · skip
        refine e_bipush 37 dX11_worst_35 (by decide) rfl ?_
        refine e_iret dX11_worst_37 ?_
        first | exact h2 (by omega) | exact h3 (by omega)
    · dsimp only [jpush]
      refine e_if_eq 22 35 dX11_worst_19 (by decide) (by decide) rfl (fun _ => ?_) (fun h => absurd h (by decide))
      refine e_bipush 37 dX11_worst_35 (by decide) rfl ?_
      refine e_iret dX11_worst_37 ?_
      first | exact h2 (by omega) | exact h3 (by omega)
  · dsimp only [jpush]
    refine e_if_ne 9 12 dX11_worst_6 (by decide) (by decide) rfl (fun h => absurd h (by decide)) (fun _ => ?_)
    refine e_bipush 11 dX11_worst_9 (by decide) rfl ?_
    refine e_iret dX11_worst_11 ?_
    first | exact h2 (by omega) | exact h3 (by omega)

theorem lm_worst1 {X : jX} {n what : Int} {M : jM} {Q : Int → jM → Prop} (hC : CR M) (hn1 : 1 ≤ n ∧ n ≤ 52 ∧ n ≤ M 929 708 + 1) {b mo w : Int} (hw : 0 ≤ w ∧ w + n ≤ M 929 708 + 1) (h : jE X yX12_worst cX12_worst 8 (some .int) 2 Q M 122 [(0, jR 928), (1, jI n), (2, jI what), (3, jI b), (4, jI mo), (5, jI w), (6, jI (w32 (wSum (rLB (M 929)) n.toNat w)))] []) : ∀ (f i : Nat), (i : Int) + f = n → ∀ s ii : Int, ii = w + i → s = w32 (wSum (rLB (M 929)) i w) → jE X yX12_worst cX12_worst 8 (some .int) 2 Q M 79 [(0, jR 928), (1, jI n), (2, jI what), (3, jI b), (4, jI mo), (5, jI w), (6, jI s), (7, jI ii)] [] := by
  intro f
  have hg := hC.rng
  induction f with
  | zero =>
    intro i hi s ii hii hs
    have e : n.toNat = i := by omega
    rw [e, ← hs] at h
    refine e_iload 81 dX12_worst_79 rfl rfl ?_
    refine e_iload 83 dX12_worst_81 rfl rfl ?_
    refine e_iload_n (i := 1) 84 dX12_worst_83 rfl rfl rfl ?_
    refine e_iadd 85 dX12_worst_84 rfl ?_
    refine e_icmp_ge 88 122 dX12_worst_85 (by omega) (by omega) (by decide) rfl (fun b85 => ?_) (fun b85 => ?_)
    · skip
      refine e_ls (ls2 := [(0, _), (1, _), (2, _), (3, _), (4, _), (5, _), (6, _)]) rfl ?_
      exact h
    · omega
  | succ f ih =>
    intro i hi s ii hii hs
    refine e_iload 81 dX12_worst_79 rfl rfl ?_
    refine e_iload 83 dX12_worst_81 rfl rfl ?_
    refine e_iload_n (i := 1) 84 dX12_worst_83 rfl rfl rfl ?_
    refine e_iadd 85 dX12_worst_84 rfl ?_
    refine e_icmp_ge 88 122 dX12_worst_85 (by omega) (by omega) (by decide) rfl (fun b85 => ?_) (fun b85 => ?_)
    · omega
    · skip
      refine e_iload 90 dX12_worst_88 rfl rfl ?_
      refine e_aload_n (i := 0) 91 dX12_worst_90 rfl rfl rfl ?_
      refine e_getr (j := 1) 94 fl_12_13 dX12_worst_91 at_928 rfl rfl tp_928_1 rfl ?_
      refine e_sipush 97 dX12_worst_94 (by decide) rfl ?_
      refine e_iload 99 dX12_worst_97 rfl rfl ?_
      refine e_iadd 100 dX12_worst_99 rfl ?_
      refine e_iald 101 dX12_worst_100 ar_929 (by omega) (by omega) rfl (fun r100 => ?_)
      refine e_aload_n (i := 0) 102 dX12_worst_101 rfl rfl rfl ?_
      refine e_getr (j := 1) 105 fl_12_13 dX12_worst_102 at_928 rfl rfl tp_928_1 rfl ?_
      refine e_sipush 108 dX12_worst_105 (by decide) rfl ?_
      refine e_iload 110 dX12_worst_108 rfl rfl ?_
      refine e_iadd 111 dX12_worst_110 rfl ?_
      refine e_iald 112 dX12_worst_111 ar_929 (by omega) (by omega) rfl (fun r111 => ?_)
      refine e_isub 113 dX12_worst_112 rfl ?_
      refine e_iadd 114 dX12_worst_113 rfl ?_
      refine e_w32 ?_
      refine e_istore (lsn := [(6, _), (0, _), (1, _), (2, _), (3, _), (4, _), (5, _), (7, _)]) 116 dX12_worst_114 (by decide) rfl rfl ?_
      refine e_iinc (lsn := [(7, _), (6, _), (0, _), (1, _), (2, _), (3, _), (4, _), (5, _)]) 119 dX12_worst_116 rfl (by decide) rfl rfl ?_
      refine e_goto 79 dX12_worst_119 (by decide) ?_
      refine e_ls (ls2 := [(0, _), (1, _), (2, _), (3, _), (4, _), (5, _), (6, _), (7, _)]) rfl ?_
      exact ih (i + 1) (by omega) _ _ (by omega) (by rw [wSum, hs, w32_w32l, hii]; rfl)

theorem lm_worst2 {X : jX} {n what : Int} {M : jM} {Q : Int → jM → Prop} (hC : CR M) (hn1 : 1 ≤ n ∧ n ≤ 52 ∧ n ≤ M 929 708 + 1) (hwh : -2147483648 ≤ what ∧ what ≤ 2147483647) : ∀ (f : Nat) (ii b mo : Int), 1 ≤ ii → (f : Int) = M 929 708 + 2 - n - ii → (-2147483648 ≤ mo ∧ mo ≤ 2147483647) → Q (rWorst (rLB (M 929)) n.toNat what f ii b mo) M → jE X yX12_worst cX12_worst 8 (some .int) 2 Q M 55 [(0, jR 928), (1, jI n), (2, jI what), (3, jI b), (4, jI mo), (5, jI ii)] [] := by
  intro f
  have hn := hC.cnt
  have hg := hC.rng
  induction f with
  | zero =>
    intro ii b mo h1 hf hm h
    rw [rWorst] at h
    refine e_iload 57 dX12_worst_55 rfl rfl ?_
    refine e_iload_n (i := 1) 58 dX12_worst_57 rfl rfl rfl ?_
    refine e_iadd 59 dX12_worst_58 rfl ?_
    refine e_aload_n (i := 0) 60 dX12_worst_59 rfl rfl rfl ?_
    refine e_getr (j := 1) 63 fl_12_13 dX12_worst_60 at_928 rfl rfl tp_928_1 rfl ?_
    refine e_sipush 66 dX12_worst_63 (by decide) rfl ?_
    refine e_iald 67 dX12_worst_66 ar_929 (by decide) (by decide) rfl (fun r66 => ?_)
    refine e_iconst 68 dX12_worst_67 rfl ?_
    refine e_iadd 69 dX12_worst_68 rfl ?_
    refine e_icmp_gt 72 150 dX12_worst_69 (by omega) (by omega) (by decide) rfl (fun b69 => ?_) (fun b69 => ?_)
    · skip
      refine e_iload_n (i := 2) 151 dX12_worst_150 rfl rfl rfl ?_
      refine e_if_ne 154 158 dX12_worst_151 (by omega) (by decide) rfl (fun b151 => ?_) (fun b151 => ?_)
      · skip
        refine e_iload 160 dX12_worst_158 rfl rfl ?_
        refine e_iret dX12_worst_160 ?_
        rw [if_neg (by omega)] at h
        exact h
      · skip
        refine e_iload_n (i := 3) 155 dX12_worst_154 rfl rfl rfl ?_
        refine e_goto 160 dX12_worst_155 (by decide) ?_
        refine e_iret dX12_worst_160 ?_
        rw [if_pos (by omega)] at h
        exact h
    · omega
  | succ f ih =>
    intro ii b mo h1 hf hm h
    have hr := w32_in (wSum (rLB (M 929)) n.toNat ii)
    rw [rWorst] at h
    refine e_iload 57 dX12_worst_55 rfl rfl ?_
    refine e_iload_n (i := 1) 58 dX12_worst_57 rfl rfl rfl ?_
    refine e_iadd 59 dX12_worst_58 rfl ?_
    refine e_aload_n (i := 0) 60 dX12_worst_59 rfl rfl rfl ?_
    refine e_getr (j := 1) 63 fl_12_13 dX12_worst_60 at_928 rfl rfl tp_928_1 rfl ?_
    refine e_sipush 66 dX12_worst_63 (by decide) rfl ?_
    refine e_iald 67 dX12_worst_66 ar_929 (by decide) (by decide) rfl (fun r66 => ?_)
    refine e_iconst 68 dX12_worst_67 rfl ?_
    refine e_iadd 69 dX12_worst_68 rfl ?_
    refine e_icmp_gt 72 150 dX12_worst_69 (by omega) (by omega) (by decide) rfl (fun b69 => ?_) (fun b69 => ?_)
    · omega
    · skip
      refine e_iconst 73 dX12_worst_72 rfl ?_
      refine e_istore (lsn := [(6, _), (0, _), (1, _), (2, _), (3, _), (4, _), (5, _)]) 75 dX12_worst_73 (by decide) rfl rfl ?_
      refine e_iload 77 dX12_worst_75 rfl rfl ?_
      refine e_istore (lsn := [(7, _), (6, _), (0, _), (1, _), (2, _), (3, _), (4, _), (5, _)]) 79 dX12_worst_77 (by decide) rfl rfl ?_
      refine e_ls (ls2 := [(0, _), (1, _), (2, _), (3, _), (4, _), (5, _), (6, _), (7, _)]) rfl ?_
      refine lm_worst1 hC (by omega) (by omega) ?_ n.toNat 0 (by omega) _ _ (by omega) rfl
      refine e_iload 124 dX12_worst_122 rfl rfl ?_
      refine e_if_le 127 137 dX12_worst_124 (by omega) (by decide) rfl (fun b124 => ?_) (fun b124 => ?_)
      · skip
        refine e_iload 139 dX12_worst_137 rfl rfl ?_
        refine e_istore_n (i := 3) (lsn := [(3, _), (0, _), (1, _), (2, _), (4, _), (5, _), (6, _)]) 140 dX12_worst_139 rfl (by decide) rfl rfl ?_
        refine e_iload 142 dX12_worst_140 rfl rfl ?_
        refine e_istore (lsn := [(4, _), (3, _), (0, _), (1, _), (2, _), (5, _), (6, _)]) 144 dX12_worst_142 (by decide) rfl rfl ?_
        refine e_iinc (lsn := [(5, _), (4, _), (3, _), (0, _), (1, _), (2, _), (6, _)]) 147 dX12_worst_144 rfl (by decide) rfl rfl ?_
        refine e_goto 55 dX12_worst_147 (by decide) ?_
        refine e_ls (ls2 := [(0, _), (1, _), (2, _), (3, _), (4, _), (5, _)]) rfl ?_
        first
          | (exfalso; omega)
          | (rw [if_neg (by omega)] at h
             exact ih _ _ _ (by omega) (by omega) (by omega) h)
      · skip
        refine e_iload 129 dX12_worst_127 rfl rfl ?_
        refine e_iload 131 dX12_worst_129 rfl rfl ?_
        refine e_icmp_gt 134 137 dX12_worst_131 (by omega) (by omega) (by decide) rfl (fun b131 => ?_) (fun b131 => ?_)
        · skip
          refine e_iload 139 dX12_worst_137 rfl rfl ?_
          refine e_istore_n (i := 3) (lsn := [(3, _), (0, _), (1, _), (2, _), (4, _), (5, _), (6, _)]) 140 dX12_worst_139 rfl (by decide) rfl rfl ?_
          refine e_iload 142 dX12_worst_140 rfl rfl ?_
          refine e_istore (lsn := [(4, _), (3, _), (0, _), (1, _), (2, _), (5, _), (6, _)]) 144 dX12_worst_142 (by decide) rfl rfl ?_
          refine e_iinc (lsn := [(5, _), (4, _), (3, _), (0, _), (1, _), (2, _), (6, _)]) 147 dX12_worst_144 rfl (by decide) rfl rfl ?_
          refine e_goto 55 dX12_worst_147 (by decide) ?_
          refine e_ls (ls2 := [(0, _), (1, _), (2, _), (3, _), (4, _), (5, _)]) rfl ?_
          first
            | (exfalso; omega)
            | (rw [if_pos (by omega)] at h
               exact ih _ _ _ (by omega) (by omega) (by omega) h)
        · skip
          refine e_goto 144 dX12_worst_134 (by decide) ?_
          refine e_iinc (lsn := [(5, _), (0, _), (1, _), (2, _), (3, _), (4, _), (6, _)]) 147 dX12_worst_144 rfl (by decide) rfl rfl ?_
          refine e_goto 55 dX12_worst_147 (by decide) ?_
          refine e_ls (ls2 := [(0, _), (1, _), (2, _), (3, _), (4, _), (5, _)]) rfl ?_
          first
            | (exfalso; omega)
            | (rw [if_neg (by omega)] at h
               exact ih _ _ _ (by omega) (by omega) (by omega) h)

theorem m_worst {n what : Int} {M : jM} {Q : Int → jM → Prop} (hC : CR M) (ht : M 928 0 = 0) (hnn : -2147483648 ≤ n ∧ n ≤ 2147483647) (hwh : -2147483648 ≤ what ∧ what ≤ 2147483647) (h2 : what < 0 ∨ 1 < what → Q (-2) M) (h3 : (0 ≤ what ∧ what ≤ 1) ∧ (n < 1 ∨ 52 < n ∨ M 929 708 + 1 < n) → Q (-3) M) (h0 : (0 ≤ what ∧ what ≤ 1) ∧ 1 ≤ n ∧ n ≤ 52 ∧ n ≤ M 929 708 + 1 → Q (rWorst (rLB (M 929)) n.toNat what (M 929 708 + 1 - n).toNat 1 0 (w32 (wSum (rLB (M 929)) n.toNat 0))) M) : jCt yX12_worst cX12_worst 8 (some .int) 2 [jR 928, jI n, jI what] M Q := by
  refine jCt_of mt_yX12_worst (Nat.le_of_ble_eq_true rfl) (fun X => ?_)
  have hn := hC.cnt
  have hg := hC.rng
  refine e_aload_n (i := 0) 1 dX12_worst_0 rfl rfl rfl ?_
  refine e_iconst 2 dX12_worst_1 rfl ?_
  refine e_put0 (j := 0) 5 fl_12_1 dX12_worst_2 at_928 rfl rfl rfl (by decide) ht rfl ?_
  refine e_iload_n (i := 2) 6 dX12_worst_5 rfl rfl rfl ?_
  refine e_i2l 7 dX12_worst_6 (by omega) rfl ?_
  refine e_lconst0 8 dX12_worst_7 rfl ?_
  refine e_lconst1 9 dX12_worst_8 rfl ?_
  refine e_callS 12 mt_yX12_within ms_yX12_within wd_1390 (by decide) dX12_worst_9 rfl rfl (Nat.le_of_ble_eq_true rfl) (jroom (by decide)) rfl (m_within (by omega) (by omega) (by omega) (fun w9 => ?_) (fun w9 => ?_))
  · dsimp only [jpush]
    refine e_if_ne 15 18 dX12_worst_12 (by decide) (by decide) rfl (fun _ => ?_) (fun h => absurd h (by decide))
    refine e_iload_n (i := 1) 19 dX12_worst_18 rfl rfl rfl ?_
    refine e_i2l 20 dX12_worst_19 (by omega) rfl ?_
    refine e_lconst1 21 dX12_worst_20 rfl ?_
    refine e_ldc2 (z := (52)) 24 (ix := 219) wd_1515 (by decide) dX12_worst_21 rfl ?_
    refine e_callS 27 mt_yX12_within ms_yX12_within wd_1390 (by decide) dX12_worst_24 rfl rfl (Nat.le_of_ble_eq_true rfl) (jroom (by decide)) rfl (m_within (by omega) (by omega) (by omega) (fun w24 => ?_) (fun w24 => ?_))
    · dsimp only [jpush]
      refine e_if_eq 30 44 dX12_worst_27 (by decide) (by decide) rfl (fun h => absurd h (by decide)) (fun _ => ?_)
      refine e_iload_n (i := 1) 31 dX12_worst_30 rfl rfl rfl ?_
      refine e_aload_n (i := 0) 32 dX12_worst_31 rfl rfl rfl ?_
      refine e_getr (j := 1) 35 fl_12_13 dX12_worst_32 at_928 rfl rfl tp_928_1 rfl ?_
      refine e_sipush 38 dX12_worst_35 (by decide) rfl ?_
      refine e_iald 39 dX12_worst_38 ar_929 (by decide) (by decide) rfl (fun r38 => ?_)
      refine e_iconst 40 dX12_worst_39 rfl ?_
      refine e_iadd 41 dX12_worst_40 rfl ?_
      refine e_icmp_le 44 47 dX12_worst_41 (by omega) (by omega) (by decide) rfl (fun b41 => ?_) (fun b41 => ?_)
      · skip
        refine e_iconst 48 dX12_worst_47 rfl ?_
        refine e_istore_n (i := 3) (lsn := [(3, _), (0, _), (1, _), (2, _)]) 49 dX12_worst_48 rfl (by decide) rfl rfl ?_
        refine e_iconst 50 dX12_worst_49 rfl ?_
        refine e_istore (lsn := [(4, _), (3, _), (0, _), (1, _), (2, _)]) 52 dX12_worst_50 (by decide) rfl rfl ?_
        refine e_iconst 53 dX12_worst_52 rfl ?_
        refine e_istore (lsn := [(5, _), (4, _), (3, _), (0, _), (1, _), (2, _)]) 55 dX12_worst_53 (by decide) rfl rfl ?_
        refine e_ls (ls2 := [(0, _), (1, _), (2, _), (3, _), (4, _), (5, _)]) rfl ?_
        refine e_iload 57 dX12_worst_55 rfl rfl ?_
        refine e_iload_n (i := 1) 58 dX12_worst_57 rfl rfl rfl ?_
        refine e_iadd 59 dX12_worst_58 rfl ?_
        refine e_aload_n (i := 0) 60 dX12_worst_59 rfl rfl rfl ?_
        refine e_getr (j := 1) 63 fl_12_13 dX12_worst_60 at_928 rfl rfl tp_928_1 rfl ?_
        refine e_sipush 66 dX12_worst_63 (by decide) rfl ?_
        refine e_iald 67 dX12_worst_66 ar_929 (by decide) (by decide) rfl (fun r66 => ?_)
        refine e_iconst 68 dX12_worst_67 rfl ?_
        refine e_iadd 69 dX12_worst_68 rfl ?_
        refine e_icmp_gt 72 150 dX12_worst_69 (by omega) (by omega) (by decide) rfl (fun b69 => ?_) (fun b69 => ?_)
        · (exfalso; omega)
        · skip
          refine e_iconst 73 dX12_worst_72 rfl ?_
          refine e_istore (lsn := [(6, _), (0, _), (1, _), (2, _), (3, _), (4, _), (5, _)]) 75 dX12_worst_73 (by decide) rfl rfl ?_
          refine e_iload 77 dX12_worst_75 rfl rfl ?_
          refine e_istore (lsn := [(7, _), (6, _), (0, _), (1, _), (2, _), (3, _), (4, _), (5, _)]) 79 dX12_worst_77 (by decide) rfl rfl ?_
          refine e_ls (ls2 := [(0, _), (1, _), (2, _), (3, _), (4, _), (5, _), (6, _), (7, _)]) rfl ?_
          refine lm_worst1 hC (by omega) (by omega) ?_ n.toNat 0 (by omega) _ _ (by omega) rfl
          have hr := w32_in (wSum (rLB (M 929)) n.toNat 0)
          refine e_iload 124 dX12_worst_122 rfl rfl ?_
          refine e_if_le 127 137 dX12_worst_124 (by omega) (by decide) rfl (fun b124 => ?_) (fun b124 => ?_)
          · skip
            refine e_iload 139 dX12_worst_137 rfl rfl ?_
            refine e_istore_n (i := 3) (lsn := [(3, _), (0, _), (1, _), (2, _), (4, _), (5, _), (6, _)]) 140 dX12_worst_139 rfl (by decide) rfl rfl ?_
            refine e_iload 142 dX12_worst_140 rfl rfl ?_
            refine e_istore (lsn := [(4, _), (3, _), (0, _), (1, _), (2, _), (5, _), (6, _)]) 144 dX12_worst_142 (by decide) rfl rfl ?_
            refine e_iinc (lsn := [(5, _), (4, _), (3, _), (0, _), (1, _), (2, _), (6, _)]) 147 dX12_worst_144 rfl (by decide) rfl rfl ?_
            refine e_goto 55 dX12_worst_147 (by decide) ?_
            refine e_ls (ls2 := [(0, _), (1, _), (2, _), (3, _), (4, _), (5, _)]) rfl ?_
            first | (exfalso; omega) | exact lm_worst2 hC (by omega) hwh (M 929 708 + 1 - n).toNat 1 0 _ (by omega) (by omega) (w32_in _) (h0 (by omega))
          · skip
            refine e_iload 129 dX12_worst_127 rfl rfl ?_
            refine e_iload 131 dX12_worst_129 rfl rfl ?_
            refine e_icmp_gt 134 137 dX12_worst_131 (by omega) (by omega) (by decide) rfl (fun b131 => ?_) (fun b131 => ?_)
            · skip
              refine e_iload 139 dX12_worst_137 rfl rfl ?_
              refine e_istore_n (i := 3) (lsn := [(3, _), (0, _), (1, _), (2, _), (4, _), (5, _), (6, _)]) 140 dX12_worst_139 rfl (by decide) rfl rfl ?_
              refine e_iload 142 dX12_worst_140 rfl rfl ?_
              refine e_istore (lsn := [(4, _), (3, _), (0, _), (1, _), (2, _), (5, _), (6, _)]) 144 dX12_worst_142 (by decide) rfl rfl ?_
              refine e_iinc (lsn := [(5, _), (4, _), (3, _), (0, _), (1, _), (2, _), (6, _)]) 147 dX12_worst_144 rfl (by decide) rfl rfl ?_
              refine e_goto 55 dX12_worst_147 (by decide) ?_
              refine e_ls (ls2 := [(0, _), (1, _), (2, _), (3, _), (4, _), (5, _)]) rfl ?_
              first | (exfalso; omega) | exact lm_worst2 hC (by omega) hwh (M 929 708 + 1 - n).toNat 1 0 _ (by omega) (by omega) (w32_in _) (h0 (by omega))
            · skip
              refine e_goto 144 dX12_worst_134 (by decide) ?_
              refine e_iinc (lsn := [(5, _), (0, _), (1, _), (2, _), (3, _), (4, _), (6, _)]) 147 dX12_worst_144 rfl (by decide) rfl rfl ?_
              refine e_goto 55 dX12_worst_147 (by decide) ?_
              refine e_ls (ls2 := [(0, _), (1, _), (2, _), (3, _), (4, _), (5, _)]) rfl ?_
              first | (exfalso; omega) | exact lm_worst2 hC (by omega) hwh (M 929 708 + 1 - n).toNat 1 0 _ (by omega) (by omega) (w32_in _) (h0 (by omega))
      · skip
        refine e_bipush 46 dX12_worst_44 (by decide) rfl ?_
        refine e_iret dX12_worst_46 ?_
        first | exact h2 (by omega) | exact h3 (by omega)
    · dsimp only [jpush]
      refine e_if_eq 30 44 dX12_worst_27 (by decide) (by decide) rfl (fun _ => ?_) (fun h => absurd h (by decide))
      refine e_bipush 46 dX12_worst_44 (by decide) rfl ?_
      refine e_iret dX12_worst_46 ?_
      first | exact h2 (by omega) | exact h3 (by omega)
  · dsimp only [jpush]
    refine e_if_ne 15 18 dX12_worst_12 (by decide) (by decide) rfl (fun h => absurd h (by decide)) (fun _ => ?_)
    refine e_bipush 17 dX12_worst_15 (by decide) rfl ?_
    refine e_iret dX12_worst_17 ?_
    first | exact h2 (by omega) | exact h3 (by omega)

theorem p_worst {M : jM} (hI : Inv M) {n : Int} (hn : -2147483648 ≤ n ∧ n ≤ 2147483647) {what : Int} (hwhat : -2147483648 ≤ what ∧ what ≤ 2147483647) : jCt yX11_worst cX11_worst 7 (some .int) 2 [jR 0, jI n, jI what] M (fun z M1 => jCt yX12_worst cX12_worst 8 (some .int) 2 [jR 928, jI n, jI what] M1 (fun z2 M2 => z = z2 ∧ Inv M2)) := by
  have hC := hI.cr
  refine c_worst hC hn hwhat (fun w => ?_) (fun w => ?_) (fun w => ?_) <;> refine m_worst hC hI.1 hn hwhat (fun w2 => ?_) (fun w2 => ?_) (fun w2 => ?_) <;> first | exact ⟨rfl, hI⟩ | (exfalso; omega)

def rFore (a : Int → Int) (b : Int) : Nat → Int → Int → Int
  | 0, _, s => s
  | n + 1, p, s => if a (1010 + p) = 0 ∧ a 28 ≤ a 708 - a (890 + p) then rFore a b n (p + 1) (s + (2 * rMoth a p (a ((if b = 0 then 595 else 607) + a (710 + p))) - (2 * a (830 + p) + rI a p))) else rFore a b n (p + 1) s
theorem l_foresee {X : jX} {b : Int} {M : jM} {Q : Int → jM → Prop} (hC : CR M) (hb : b = 0 ∨ b = 1) : ∀ (n : Nat) (ii s : Int), 0 ≤ ii → ii + n = M 929 709 → Q (rFore (M 929) b n ii s) M → jE X yX11_foresee cX11_foresee 6 (some .int) 5 Q M 4 [(0, jR 0), (1, jI b), (2, jI s), (3, jI ii)] [] := by
  intro n
  induction n with
  | zero =>
    intro ii s h0 hi h
    have hn := hC.cnt
    have hg := hC.rng
    rw [rFore] at h
    refine e_iload_n (i := 3) 5 dX11_foresee_4 rfl rfl rfl ?_
    refine e_aload_n (i := 0) 6 dX11_foresee_5 rfl rfl rfl ?_
    refine e_getr (j := 0) 9 fl_11_10 dX11_foresee_6 at_0 rfl rfl tp_0_0 rfl ?_
    refine e_geti (j := 10) 12 fl_11_271 dX11_foresee_9 at_1 (by decide) rfl rfl (fun r9 => ?_)
    refine e_icmp_ge 15 87 dX11_foresee_12 (by omega) (by omega) (by decide) rfl (fun b12 => ?_) (fun b12 => ?_)
    · skip
      refine e_iload_n (i := 2) 88 dX11_foresee_87 rfl rfl rfl ?_
      refine e_iret dX11_foresee_88 ?_
      exact h
    · omega
  | succ n ih =>
    intro ii s h0 hi h
    have hn := hC.cnt
    have hg := hC.rng
    rw [rFore] at h
    refine e_iload_n (i := 3) 5 dX11_foresee_4 rfl rfl rfl ?_
    refine e_aload_n (i := 0) 6 dX11_foresee_5 rfl rfl rfl ?_
    refine e_getr (j := 0) 9 fl_11_10 dX11_foresee_6 at_0 rfl rfl tp_0_0 rfl ?_
    refine e_geti (j := 10) 12 fl_11_271 dX11_foresee_9 at_1 (by decide) rfl rfl (fun r9 => ?_)
    refine e_icmp_ge 15 87 dX11_foresee_12 (by omega) (by omega) (by decide) rfl (fun b12 => ?_) (fun b12 => ?_)
    · omega
    · skip
      have hp := hC.pl (p := ii) (by omega) (by omega)
      have hpr := hC.plr (p := ii) (by omega) (by omega)
      have hio := hC.iOf (p := ii) (by omega) (by omega)
      refine e_aload_n (i := 0) 16 dX11_foresee_15 rfl rfl rfl ?_
      refine e_getr (j := 0) 19 fl_11_10 dX11_foresee_16 at_0 rfl rfl tp_0_0 rfl ?_
      refine e_iload_n (i := 3) 20 dX11_foresee_19 rfl rfl rfl ?_
      refine e_callV 23 mt_yX8_isPassed mv_yX8_isPassed wd_884 (by decide) dX11_foresee_20 at_1 jc_8 rfl rfl rfl (Nat.le_of_ble_eq_true rfl) (jroom (by decide)) rfl (c_isPassed (by omega) hC (fun w20 => ?_) (fun w20 => ?_))
      · dsimp only [jpush]
        refine e_if_eq 26 81 dX11_foresee_23 (by decide) (by decide) rfl (fun h => absurd h (by decide)) (fun _ => ?_)
        refine e_aload_n (i := 0) 27 dX11_foresee_26 rfl rfl rfl ?_
        refine e_getr (j := 0) 30 fl_11_10 dX11_foresee_27 at_0 rfl rfl tp_0_0 rfl ?_
        refine e_getr (j := 9) 33 fl_11_200 dX11_foresee_30 at_1 rfl rfl tp_1_9 rfl ?_
        refine e_iload_n (i := 3) 34 dX11_foresee_33 rfl rfl rfl ?_
        refine e_aald 35 dX11_foresee_34 ar_18 (by decide) (by omega) (by omega) (tp_pledge (by omega) (by omega)) rfl ?_
        refine e_astore (lsn := [(4, _), (0, _), (1, _), (2, _), (3, _)]) 37 dX11_foresee_35 (by decide) rfl rfl ?_
        refine e_iload_n (i := 1) 38 dX11_foresee_37 rfl rfl rfl ?_
        refine e_if_eq 41 53 dX11_foresee_38 (by omega) (by decide) rfl (fun b38 => ?_) (fun b38 => ?_)
        · skip
          refine e_aload_n (i := 0) 54 dX11_foresee_53 rfl rfl rfl ?_
          refine e_getr (j := 0) 57 fl_11_10 dX11_foresee_54 at_0 rfl rfl tp_0_0 rfl ?_
          refine e_aload 59 dX11_foresee_57 rfl rfl ?_
          refine e_callV 62 mt_yX8_mothedLow mv_yX8_mothedLow wd_867 (by decide) dX11_foresee_59 at_1 jc_8 rfl rfl rfl (Nat.le_of_ble_eq_true rfl) (jroom (by decide)) rfl (c_mothedLow hC (by omega) (by omega) ?_)
          dsimp only [jpush]
          refine e_istore (lsn := [(5, _), (4, _), (0, _), (1, _), (2, _), (3, _)]) 64 dX11_foresee_62 (by decide) rfl rfl ?_
          refine e_iload_n (i := 2) 65 dX11_foresee_64 rfl rfl rfl ?_
          refine e_iconst 66 dX11_foresee_65 rfl ?_
          refine e_iload 68 dX11_foresee_66 rfl rfl ?_
          refine e_imul 69 dX11_foresee_68 rfl ?_
          refine e_aload_n (i := 0) 70 dX11_foresee_69 rfl rfl rfl ?_
          refine e_getr (j := 0) 73 fl_11_10 dX11_foresee_70 at_0 rfl rfl tp_0_0 rfl ?_
          refine e_aload 75 dX11_foresee_73 rfl rfl ?_
          refine e_callV 78 mt_yX8_due mv_yX8_due wd_817 (by decide) dX11_foresee_75 at_1 jc_8 rfl rfl rfl (Nat.le_of_ble_eq_true rfl) (jroom (by decide)) rfl (c_due (hC.pOk (by omega) (by omega)) ?_)
          dsimp only [jpush]
          refine e_isub 79 dX11_foresee_78 rfl ?_
          refine e_iadd 80 dX11_foresee_79 rfl ?_
          refine e_istore_n (i := 2) (lsn := [(2, _), (5, _), (4, _), (0, _), (1, _), (3, _)]) 81 dX11_foresee_80 rfl (by decide) rfl rfl ?_
          refine e_iinc (lsn := [(3, _), (2, _), (5, _), (4, _), (0, _), (1, _)]) 84 dX11_foresee_81 rfl (by decide) rfl rfl ?_
          refine e_goto 4 dX11_foresee_84 (by decide) ?_
          refine e_ls (ls2 := [(0, _), (1, _), (2, _), (3, _)]) rfl ?_
          rw [if_pos (by omega), if_pos (by omega)] at h
          rw [hio, hp.1.2.2.1]
          exact ih _ _ (by omega) (by omega) h
        · skip
          refine e_aload_n (i := 0) 42 dX11_foresee_41 rfl rfl rfl ?_
          refine e_getr (j := 0) 45 fl_11_10 dX11_foresee_42 at_0 rfl rfl tp_0_0 rfl ?_
          refine e_aload 47 dX11_foresee_45 rfl rfl ?_
          refine e_callV 50 mt_yX8_mothedHigh mv_yX8_mothedHigh wd_876 (by decide) dX11_foresee_47 at_1 jc_8 rfl rfl rfl (Nat.le_of_ble_eq_true rfl) (jroom (by decide)) rfl (c_mothedHigh hC (by omega) (by omega) ?_)
          dsimp only [jpush]
          refine e_goto 62 dX11_foresee_50 (by decide) ?_
          refine e_istore (lsn := [(5, _), (4, _), (0, _), (1, _), (2, _), (3, _)]) 64 dX11_foresee_62 (by decide) rfl rfl ?_
          refine e_iload_n (i := 2) 65 dX11_foresee_64 rfl rfl rfl ?_
          refine e_iconst 66 dX11_foresee_65 rfl ?_
          refine e_iload 68 dX11_foresee_66 rfl rfl ?_
          refine e_imul 69 dX11_foresee_68 rfl ?_
          refine e_aload_n (i := 0) 70 dX11_foresee_69 rfl rfl rfl ?_
          refine e_getr (j := 0) 73 fl_11_10 dX11_foresee_70 at_0 rfl rfl tp_0_0 rfl ?_
          refine e_aload 75 dX11_foresee_73 rfl rfl ?_
          refine e_callV 78 mt_yX8_due mv_yX8_due wd_817 (by decide) dX11_foresee_75 at_1 jc_8 rfl rfl rfl (Nat.le_of_ble_eq_true rfl) (jroom (by decide)) rfl (c_due (hC.pOk (by omega) (by omega)) ?_)
          dsimp only [jpush]
          refine e_isub 79 dX11_foresee_78 rfl ?_
          refine e_iadd 80 dX11_foresee_79 rfl ?_
          refine e_istore_n (i := 2) (lsn := [(2, _), (5, _), (4, _), (0, _), (1, _), (3, _)]) 81 dX11_foresee_80 rfl (by decide) rfl rfl ?_
          refine e_iinc (lsn := [(3, _), (2, _), (5, _), (4, _), (0, _), (1, _)]) 84 dX11_foresee_81 rfl (by decide) rfl rfl ?_
          refine e_goto 4 dX11_foresee_84 (by decide) ?_
          refine e_ls (ls2 := [(0, _), (1, _), (2, _), (3, _)]) rfl ?_
          rw [if_pos (by omega), if_neg (by omega)] at h
          rw [hio, hp.1.2.2.1]
          exact ih _ _ (by omega) (by omega) h
      · dsimp only [jpush]
        refine e_if_eq 26 81 dX11_foresee_23 (by decide) (by decide) rfl (fun _ => ?_) (fun h => absurd h (by decide))
        refine e_iinc (lsn := [(3, _), (0, _), (1, _), (2, _)]) 84 dX11_foresee_81 rfl (by decide) rfl rfl ?_
        refine e_goto 4 dX11_foresee_84 (by decide) ?_
        refine e_ls (ls2 := [(0, _), (1, _), (2, _), (3, _)]) rfl ?_
        rw [if_neg (by omega)] at h
        exact ih _ _ (by omega) (by omega) h

theorem c_foresee {b : Int} {M : jM} {Q : Int → jM → Prop} (hC : CR M) (hb : b = 0 ∨ b = 1) (h : Q (rFore (M 929) b (M 929 709).toNat 0 0) M) : jCt yX11_foresee cX11_foresee 6 (some .int) 5 [jR 0, jI b] M Q := by
  refine jCt_of mt_yX11_foresee (Nat.le_of_ble_eq_true rfl) (fun X => ?_)
  have hg := hC.rng
  refine e_iconst 1 dX11_foresee_0 rfl ?_
  refine e_istore_n (i := 2) (lsn := [(2, _), (0, _), (1, _)]) 2 dX11_foresee_1 rfl (by decide) rfl rfl ?_
  refine e_iconst 3 dX11_foresee_2 rfl ?_
  refine e_istore_n (i := 3) (lsn := [(3, _), (2, _), (0, _), (1, _)]) 4 dX11_foresee_3 rfl (by decide) rfl rfl ?_
  refine e_ls (ls2 := [(0, _), (1, _), (2, _), (3, _)]) rfl ?_
  exact l_foresee hC hb (M 929 709).toNat 0 0 (by omega) (by omega) h

theorem lm_foresee {X : jX} {b : Int} {M : jM} {Q : Int → jM → Prop} (hC : CR M) (hb : b = 0 ∨ b = 1) : ∀ (n : Nat) (ii s : Int), 0 ≤ ii → ii + n = M 929 709 → Q (rFore (M 929) b n ii s) M → jE X yX12_foresee cX12_foresee 4 (some .int) 4 Q M 9 [(0, jR 928), (1, jI b), (2, jI s), (3, jI ii)] [] := by
  intro n
  induction n with
  | zero =>
    intro ii s h0 hi h
    have hn := hC.cnt
    have hg := hC.rng
    rw [rFore] at h
    refine e_iload_n (i := 3) 10 dX12_foresee_9 rfl rfl rfl ?_
    refine e_aload_n (i := 0) 11 dX12_foresee_10 rfl rfl rfl ?_
    refine e_getr (j := 1) 14 fl_12_13 dX12_foresee_11 at_928 rfl rfl tp_928_1 rfl ?_
    refine e_sipush 17 dX12_foresee_14 (by decide) rfl ?_
    refine e_iald 18 dX12_foresee_17 ar_929 (by decide) (by decide) rfl (fun r17 => ?_)
    refine e_icmp_ge 21 80 dX12_foresee_18 (by omega) (by omega) (by decide) rfl (fun b18 => ?_) (fun b18 => ?_)
    · skip
      refine e_iload_n (i := 2) 81 dX12_foresee_80 rfl rfl rfl ?_
      refine e_iret dX12_foresee_81 ?_
      exact h
    · omega
  | succ n ih =>
    intro ii s h0 hi h
    have hn := hC.cnt
    have hg := hC.rng
    rw [rFore] at h
    refine e_iload_n (i := 3) 10 dX12_foresee_9 rfl rfl rfl ?_
    refine e_aload_n (i := 0) 11 dX12_foresee_10 rfl rfl rfl ?_
    refine e_getr (j := 1) 14 fl_12_13 dX12_foresee_11 at_928 rfl rfl tp_928_1 rfl ?_
    refine e_sipush 17 dX12_foresee_14 (by decide) rfl ?_
    refine e_iald 18 dX12_foresee_17 ar_929 (by decide) (by decide) rfl (fun r17 => ?_)
    refine e_icmp_ge 21 80 dX12_foresee_18 (by omega) (by omega) (by decide) rfl (fun b18 => ?_) (fun b18 => ?_)
    · omega
    · skip
      have hp := hC.pl (p := ii) (by omega) (by omega)
      have hpr := hC.plr (p := ii) (by omega) (by omega)
      have hkl := hC.1.low (p := ii) (by omega) (by omega)
      have hkh := hC.1.high (p := ii) (by omega) (by omega)
      refine e_aload_n (i := 0) 22 dX12_foresee_21 rfl rfl rfl ?_
      refine e_iload_n (i := 3) 23 dX12_foresee_22 rfl rfl rfl ?_
      refine e_callV 26 mt_yX12_isPassed mv_yX12_isPassed wd_1603 (by decide) dX12_foresee_23 at_928 jc_12 rfl rfl rfl (Nat.le_of_ble_eq_true rfl) (jroom (by decide)) rfl (m_isPassed (by omega) (by omega) (fun w23 => ?_) (fun w23 => ?_))
      · dsimp only [jpush]
        refine e_if_eq 29 74 dX12_foresee_26 (by decide) (by decide) rfl (fun h => absurd h (by decide)) (fun _ => ?_)
        refine e_iload_n (i := 2) 30 dX12_foresee_29 rfl rfl rfl ?_
        refine e_iconst 31 dX12_foresee_30 rfl ?_
        refine e_aload_n (i := 0) 32 dX12_foresee_31 rfl rfl rfl ?_
        refine e_iload_n (i := 3) 33 dX12_foresee_32 rfl rfl rfl ?_
        refine e_aload_n (i := 0) 34 dX12_foresee_33 rfl rfl rfl ?_
        refine e_getr (j := 1) 37 fl_12_13 dX12_foresee_34 at_928 rfl rfl tp_928_1 rfl ?_
        refine e_iload_n (i := 1) 38 dX12_foresee_37 rfl rfl rfl ?_
        refine e_if_eq 41 47 dX12_foresee_38 (by omega) (by decide) rfl (fun b38 => ?_) (fun b38 => ?_)
        · skip
          refine e_sipush 50 dX12_foresee_47 (by decide) rfl ?_
          refine e_aload_n (i := 0) 51 dX12_foresee_50 rfl rfl rfl ?_
          refine e_getr (j := 1) 54 fl_12_13 dX12_foresee_51 at_928 rfl rfl tp_928_1 rfl ?_
          refine e_sipush 57 dX12_foresee_54 (by decide) rfl ?_
          refine e_iload_n (i := 3) 58 dX12_foresee_57 rfl rfl rfl ?_
          refine e_iadd 59 dX12_foresee_58 rfl ?_
          refine e_iald 60 dX12_foresee_59 ar_929 (by omega) (by omega) rfl (fun r59 => ?_)
          refine e_iadd 61 dX12_foresee_60 rfl ?_
          refine e_iald 62 dX12_foresee_61 ar_929 (by omega) (by omega) rfl (fun r61 => ?_)
          refine e_callV 65 mt_yX12_mothed mv_yX12_mothed wd_1595 (by decide) dX12_foresee_62 at_928 jc_12 rfl rfl rfl (Nat.le_of_ble_eq_true rfl) (jroom (by decide)) rfl (m_mothed (hC.1.okM (by omega) (by omega)) (by omega) ?_)
          dsimp only [jpush]
          refine e_imul 66 dX12_foresee_65 rfl ?_
          refine e_aload_n (i := 0) 67 dX12_foresee_66 rfl rfl rfl ?_
          refine e_iload_n (i := 3) 68 dX12_foresee_67 rfl rfl rfl ?_
          refine e_callV 71 mt_yX12_dueOf mv_yX12_dueOf wd_1547 (by decide) dX12_foresee_68 at_928 jc_12 rfl rfl rfl (Nat.le_of_ble_eq_true rfl) (jroom (by decide)) rfl (m_dueOf (hC.1.okP (by omega) (by omega)) ?_)
          dsimp only [jpush]
          refine e_isub 72 dX12_foresee_71 rfl ?_
          refine e_iadd 73 dX12_foresee_72 rfl ?_
          refine e_istore_n (i := 2) (lsn := [(2, _), (0, _), (1, _), (3, _)]) 74 dX12_foresee_73 rfl (by decide) rfl rfl ?_
          refine e_iinc (lsn := [(3, _), (2, _), (0, _), (1, _)]) 77 dX12_foresee_74 rfl (by decide) rfl rfl ?_
          refine e_goto 9 dX12_foresee_77 (by decide) ?_
          refine e_ls (ls2 := [(0, _), (1, _), (2, _), (3, _)]) rfl ?_
          rw [if_pos (by omega), if_pos (by omega)] at h
          exact ih _ _ (by omega) (by omega) h
        · skip
          refine e_sipush 44 dX12_foresee_41 (by decide) rfl ?_
          refine e_goto 50 dX12_foresee_44 (by decide) ?_
          refine e_aload_n (i := 0) 51 dX12_foresee_50 rfl rfl rfl ?_
          refine e_getr (j := 1) 54 fl_12_13 dX12_foresee_51 at_928 rfl rfl tp_928_1 rfl ?_
          refine e_sipush 57 dX12_foresee_54 (by decide) rfl ?_
          refine e_iload_n (i := 3) 58 dX12_foresee_57 rfl rfl rfl ?_
          refine e_iadd 59 dX12_foresee_58 rfl ?_
          refine e_iald 60 dX12_foresee_59 ar_929 (by omega) (by omega) rfl (fun r59 => ?_)
          refine e_iadd 61 dX12_foresee_60 rfl ?_
          refine e_iald 62 dX12_foresee_61 ar_929 (by omega) (by omega) rfl (fun r61 => ?_)
          refine e_callV 65 mt_yX12_mothed mv_yX12_mothed wd_1595 (by decide) dX12_foresee_62 at_928 jc_12 rfl rfl rfl (Nat.le_of_ble_eq_true rfl) (jroom (by decide)) rfl (m_mothed (hC.1.okM (by omega) (by omega)) (by omega) ?_)
          dsimp only [jpush]
          refine e_imul 66 dX12_foresee_65 rfl ?_
          refine e_aload_n (i := 0) 67 dX12_foresee_66 rfl rfl rfl ?_
          refine e_iload_n (i := 3) 68 dX12_foresee_67 rfl rfl rfl ?_
          refine e_callV 71 mt_yX12_dueOf mv_yX12_dueOf wd_1547 (by decide) dX12_foresee_68 at_928 jc_12 rfl rfl rfl (Nat.le_of_ble_eq_true rfl) (jroom (by decide)) rfl (m_dueOf (hC.1.okP (by omega) (by omega)) ?_)
          dsimp only [jpush]
          refine e_isub 72 dX12_foresee_71 rfl ?_
          refine e_iadd 73 dX12_foresee_72 rfl ?_
          refine e_istore_n (i := 2) (lsn := [(2, _), (0, _), (1, _), (3, _)]) 74 dX12_foresee_73 rfl (by decide) rfl rfl ?_
          refine e_iinc (lsn := [(3, _), (2, _), (0, _), (1, _)]) 77 dX12_foresee_74 rfl (by decide) rfl rfl ?_
          refine e_goto 9 dX12_foresee_77 (by decide) ?_
          refine e_ls (ls2 := [(0, _), (1, _), (2, _), (3, _)]) rfl ?_
          rw [if_pos (by omega), if_neg (by omega)] at h
          exact ih _ _ (by omega) (by omega) h
      · dsimp only [jpush]
        refine e_if_eq 29 74 dX12_foresee_26 (by decide) (by decide) rfl (fun _ => ?_) (fun h => absurd h (by decide))
        refine e_iinc (lsn := [(3, _), (0, _), (1, _), (2, _)]) 77 dX12_foresee_74 rfl (by decide) rfl rfl ?_
        refine e_goto 9 dX12_foresee_77 (by decide) ?_
        refine e_ls (ls2 := [(0, _), (1, _), (2, _), (3, _)]) rfl ?_
        rw [if_neg (by omega)] at h
        exact ih _ _ (by omega) (by omega) h

theorem m_foresee {b : Int} {M : jM} {Q : Int → jM → Prop} (hC : CR M) (hb : b = 0 ∨ b = 1) (ht : M 928 0 = 0) (h : Q (rFore (M 929) b (M 929 709).toNat 0 0) M) : jCt yX12_foresee cX12_foresee 4 (some .int) 4 [jR 928, jI b] M Q := by
  refine jCt_of mt_yX12_foresee (Nat.le_of_ble_eq_true rfl) (fun X => ?_)
  have hg := hC.rng
  refine e_aload_n (i := 0) 1 dX12_foresee_0 rfl rfl rfl ?_
  refine e_iconst 2 dX12_foresee_1 rfl ?_
  refine e_put0 (j := 0) 5 fl_12_1 dX12_foresee_2 at_928 rfl rfl rfl (by decide) ht rfl ?_
  refine e_iconst 6 dX12_foresee_5 rfl ?_
  refine e_istore_n (i := 2) (lsn := [(2, _), (0, _), (1, _)]) 7 dX12_foresee_6 rfl (by decide) rfl rfl ?_
  refine e_iconst 8 dX12_foresee_7 rfl ?_
  refine e_istore_n (i := 3) (lsn := [(3, _), (2, _), (0, _), (1, _)]) 9 dX12_foresee_8 rfl (by decide) rfl rfl ?_
  refine e_ls (ls2 := [(0, _), (1, _), (2, _), (3, _)]) rfl ?_
  exact lm_foresee hC hb (M 929 709).toNat 0 0 (by omega) (by omega) h

theorem p_foresee {M : jM} (hI : Inv M) {b : Int} (hb : b = 0 ∨ b = 1) : jCt yX11_foresee cX11_foresee 6 (some .int) 5 [jR 0, jI b] M (fun z M1 => jCt yX12_foresee cX12_foresee 4 (some .int) 4 [jR 928, jI b] M1 (fun z2 M2 => z = z2 ∧ Inv M2)) := by
  exact c_foresee hI.cr hb (m_foresee hI.cr hb hI.1 ⟨rfl, hI⟩)

