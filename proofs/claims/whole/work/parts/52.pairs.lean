/-! PAIRS: clerk -/
def smallV (v : Int) : Int := if 0 ≤ v ∧ v ≤ 999 then v else -1
theorem smallV_or (v : Int) : (smallV v = v ∧ 0 ≤ v ∧ v ≤ 999) ∨ (smallV v = -1 ∧ (v < 0 ∨ 999 < v)) := by
  unfold smallV
  split <;> omega
abbrev zOk (a : Int → Int) (k p l : Int) : Prop := (0 ≤ k ∧ k < a 582) ∧ (0 ≤ p ∧ p < a 643) ∧ (1 ≤ l ∧ l ≤ 999) ∧ a 709 < 60 ∧ a 1310 < 150 ∧ l ≤ rTop a 0
def zStep (Z : jM) (k p l : Int) : jM := rLend (cLend Z k p l) k p l
def zClerk (v : Int → Int) : Nat → jM → Int → Int → Int × jM
  | 0, Z, _, n => (n, Z)
  | f + 1, Z, i, n => if zOk (Z 929) (v i) (v (i + 1)) (v (i + 2)) then zClerk v f (zStep Z (v i) (v (i + 1)) (v (i + 2))) (i + 3) (n + 1) else (n, Z)
theorem zStep_inv {Z : jM} (hI : Inv Z) {k p l : Int} (h : zOk (Z 929) k p l) : Inv (zStep Z k p l) := step_lend hI h.1 h.2.1 h.2.2.1 h.2.2.2.1 h.2.2.2.2.1
theorem zClerk_inv {v : Int → Int} : ∀ (f : Nat) (Z : jM) (i n : Int), Inv Z → Inv (zClerk v f Z i n).2
  | 0, _, _, _, h => h
  | f + 1, Z, i, n, h => by
    rw [zClerk]
    split
    · rename_i q
      exact zClerk_inv f _ _ _ (zStep_inv h q)
    · exact h
theorem rLend_row {M : jM} {k p l q : Int} (h : q ≠ 929) : rLend M k p l q = M q := by
  unfold rLend
  rw [rGive_row h, jset_row h, jset_row h, jset_row h, jset_row h, rBegin_row h]
theorem rLend_cong {M N : jM} {k p l : Int} (h : M 929 = N 929) : rLend M k p l 929 = rLend N k p l 929 := by
  unfold rLend
  simp only [rGive_929, jset_929, rBegin_929, h]
theorem zStep_hi {Z : jM} (hI : Inv Z) {k p l q : Int} (h : zOk (Z 929) k p l) (hq : 294 ≤ q) (h9 : q ≠ 929) : zStep Z k p l q = Z q := by
  have hC := hI.cr
  have hn := hC.cnt
  have hg := hC.rng
  unfold zStep
  rw [rLend_row h9, cLend_hi hq (by omega) (by omega) (by omega)]
theorem zStep_929 {Z Y : jM} (hI : Inv Z) {k p l : Int} (h : zOk (Z 929) k p l) (e : Y 929 = Z 929) : rLend Y k p l 929 = zStep Z k p l 929 := by
  have hC := hI.cr
  have hn := hC.cnt
  have hg := hC.rng
  unfold zStep
  refine rLend_cong ?_
  rw [cLend_hi (by omega) (by omega) (by omega) (by omega), e]
theorem zClerk_hi {v : Int → Int} {q : Int} (hq : 294 ≤ q) (h9 : q ≠ 929) : ∀ (f : Nat) (Z : jM) (i n : Int), Inv Z → (zClerk v f Z i n).2 q = Z q
  | 0, _, _, _, _ => rfl
  | f + 1, Z, i, n, h => by
    rw [zClerk]
    split
    · rename_i e
      rw [zClerk_hi hq h9 f _ _ _ (zStep_inv h e), zStep_hi h e hq h9]
    · rfl
theorem ceq_lend {X Z : jM} (h : Ceq X Z) {k p l : Int} (hp : 0 ≤ p ∧ p < 16) : Ceq (cLend X k p l) (zStep Z k p l) := by
  have e1 := h 1 (by omega)
  have e6 := h 6 (by omega)
  have e68 := h (68 + p) (by omega)
  have e32 := h (32 + 0) (by omega)
  have e34 := h (32 + 2) (by omega)
  have a : Ceq (cLend X k p l) (cLend Z k p l) := by
    unfold cLend
    rw [e1, e6, e68, e32, e34]
    exact (((((h.begin rfl rfl rfl rfl rfl).set rfl rfl rfl).set rfl rfl rfl).set rfl rfl rfl).set rfl rfl rfl).give rfl rfl
  have b : Ceq (cLend Z k p l) (zStep Z k p l) := by
    unfold zStep rLend
    exact (((((Ceq.rf).rb).rr).rr).rr).rr.rg
  intro q e
  rw [a q e, b q e]
theorem lOk_ceq {X Z : jM} (h : Ceq X Z) (hO : lOk Z 2) : lOk X 2 := by
  have e2 := h 2 (by omega)
  have e3 := h (2 + 1) (by omega)
  have e4 := h (2 + 2) (by omega)
  have e5 := h (2 + 3) (by omega)
  have e6 := h (2 + 4) (by omega)
  unfold lOk at hO ⊢
  rw [e2, e3, e4, e5, e6]
  exact hO
theorem lTop_ceq {X Z : jM} (h : Ceq X Z) : lTop X 2 = lTop Z 2 := by
  have e2 := h 2 (by omega)
  have e3 := h (2 + 1) (by omega)
  unfold lTop
  rw [e2, e3]
theorem c_small {r i : Int} {M : jM} {Q : Int → jM → Prop} (hr : 0 ≤ r ∧ r < 4) (hi : 0 ≤ i ∧ i < 40) (h : Q (smallV (M (896 + 2 * r) i)) M) : jCt yX7_small cX7_small 4 (some .int) 1 [jR (895 + 2 * r), jI i] M Q := by
  refine jCt_of mt_yX7_small (Nat.le_of_ble_eq_true rfl) (fun X => ?_)
  refine e_aload_n (i := 0) 1 dX7_small_0 rfl rfl rfl ?_
  refine e_getr (j := 2) 4 fl_7_15 dX7_small_1 (at_row (by omega) (by omega)) rfl rfl (tp_rownum (by omega) (by omega)) rfl ?_
  refine e_iload_n (i := 1) 5 dX7_small_4 rfl rfl rfl ?_
  refine e_lald 6 dX7_small_5 (ar_rownum (by omega) (by omega)) (by omega) (by omega) rfl (fun r5 => ?_)
  refine e_lstore_n (i := 2) (lsn := [(2, _), (0, _), (1, _)]) 7 dX7_small_6 rfl (by decide) rfl rfl ?_
  refine e_lconst0 8 dX7_small_7 rfl ?_
  refine e_lload_n (i := 2) 9 dX7_small_8 rfl rfl rfl ?_
  refine e_lcmp 10 dX7_small_9 (by decide) (by omega) rfl (fun b9 => ?_) (fun b9 => ?_) (fun b9 => ?_)
  · skip
    refine e_if_gt 13 26 dX7_small_10 (by decide) (by decide) rfl (fun h => absurd h (by decide)) (fun _ => ?_)
    refine e_lload_n (i := 2) 14 dX7_small_13 rfl rfl rfl ?_
    refine e_ldc2 (z := (999)) 17 (ix := 26) wd_988 (by decide) dX7_small_14 rfl ?_
    refine e_lcmp 18 dX7_small_17 (by omega) (by decide) rfl (fun b17 => ?_) (fun b17 => ?_) (fun b17 => ?_)
    · skip
      refine e_if_gt 21 26 dX7_small_18 (by decide) (by decide) rfl (fun h => absurd h (by decide)) (fun _ => ?_)
      refine e_lload_n (i := 2) 22 dX7_small_21 rfl rfl rfl ?_
      refine e_l2i 23 dX7_small_22 rfl ?_
      refine e_goto 27 dX7_small_23 (by decide) ?_
      refine e_iret dX7_small_27 ?_
      first
        | (rw [show smallV (M (896 + 2 * r) i) = M (896 + 2 * r) i from if_pos (by omega)] at h; exact h)
        | (rw [show smallV (M (896 + 2 * r) i) = -1 from if_neg (by omega)] at h; exact h)
        | (exfalso; omega)
    · skip
      refine e_if_gt 21 26 dX7_small_18 (by decide) (by decide) rfl (fun h => absurd h (by decide)) (fun _ => ?_)
      refine e_lload_n (i := 2) 22 dX7_small_21 rfl rfl rfl ?_
      refine e_l2i 23 dX7_small_22 rfl ?_
      refine e_goto 27 dX7_small_23 (by decide) ?_
      refine e_iret dX7_small_27 ?_
      first
        | (rw [show smallV (M (896 + 2 * r) i) = M (896 + 2 * r) i from if_pos (by omega)] at h; exact h)
        | (rw [show smallV (M (896 + 2 * r) i) = -1 from if_neg (by omega)] at h; exact h)
        | (exfalso; omega)
    · skip
      refine e_if_gt 21 26 dX7_small_18 (by decide) (by decide) rfl (fun _ => ?_) (fun h => absurd h (by decide))
      refine e_iconst 27 dX7_small_26 rfl ?_
      refine e_iret dX7_small_27 ?_
      first
        | (rw [show smallV (M (896 + 2 * r) i) = M (896 + 2 * r) i from if_pos (by omega)] at h; exact h)
        | (rw [show smallV (M (896 + 2 * r) i) = -1 from if_neg (by omega)] at h; exact h)
        | (exfalso; omega)
  · skip
    refine e_if_gt 13 26 dX7_small_10 (by decide) (by decide) rfl (fun h => absurd h (by decide)) (fun _ => ?_)
    refine e_lload_n (i := 2) 14 dX7_small_13 rfl rfl rfl ?_
    refine e_ldc2 (z := (999)) 17 (ix := 26) wd_988 (by decide) dX7_small_14 rfl ?_
    refine e_lcmp 18 dX7_small_17 (by omega) (by decide) rfl (fun b17 => ?_) (fun b17 => ?_) (fun b17 => ?_)
    · skip
      refine e_if_gt 21 26 dX7_small_18 (by decide) (by decide) rfl (fun h => absurd h (by decide)) (fun _ => ?_)
      refine e_lload_n (i := 2) 22 dX7_small_21 rfl rfl rfl ?_
      refine e_l2i 23 dX7_small_22 rfl ?_
      refine e_goto 27 dX7_small_23 (by decide) ?_
      refine e_iret dX7_small_27 ?_
      first
        | (rw [show smallV (M (896 + 2 * r) i) = M (896 + 2 * r) i from if_pos (by omega)] at h; exact h)
        | (rw [show smallV (M (896 + 2 * r) i) = -1 from if_neg (by omega)] at h; exact h)
        | (exfalso; omega)
    · skip
      refine e_if_gt 21 26 dX7_small_18 (by decide) (by decide) rfl (fun h => absurd h (by decide)) (fun _ => ?_)
      refine e_lload_n (i := 2) 22 dX7_small_21 rfl rfl rfl ?_
      refine e_l2i 23 dX7_small_22 rfl ?_
      refine e_goto 27 dX7_small_23 (by decide) ?_
      refine e_iret dX7_small_27 ?_
      first
        | (rw [show smallV (M (896 + 2 * r) i) = M (896 + 2 * r) i from if_pos (by omega)] at h; exact h)
        | (rw [show smallV (M (896 + 2 * r) i) = -1 from if_neg (by omega)] at h; exact h)
        | (exfalso; omega)
    · skip
      refine e_if_gt 21 26 dX7_small_18 (by decide) (by decide) rfl (fun _ => ?_) (fun h => absurd h (by decide))
      refine e_iconst 27 dX7_small_26 rfl ?_
      refine e_iret dX7_small_27 ?_
      first
        | (rw [show smallV (M (896 + 2 * r) i) = M (896 + 2 * r) i from if_pos (by omega)] at h; exact h)
        | (rw [show smallV (M (896 + 2 * r) i) = -1 from if_neg (by omega)] at h; exact h)
        | (exfalso; omega)
  · skip
    refine e_if_gt 13 26 dX7_small_10 (by decide) (by decide) rfl (fun _ => ?_) (fun h => absurd h (by decide))
    refine e_iconst 27 dX7_small_26 rfl ?_
    refine e_iret dX7_small_27 ?_
    first
      | (rw [show smallV (M (896 + 2 * r) i) = M (896 + 2 * r) i from if_pos (by omega)] at h; exact h)
      | (rw [show smallV (M (896 + 2 * r) i) = -1 from if_neg (by omega)] at h; exact h)
      | (exfalso; omega)

theorem l_clerk {XX : jX} {r len : Int} {v : Int → Int} {Q : Int → jM → Prop} (hr : 0 ≤ r ∧ r < 4) (h40 : 0 ≤ len ∧ len ≤ 40) : ∀ (f : Nat) (X Z : jM) (n ii : Int), Inv Z → Ceq X Z → X (895 + 2 * r) 0 = len → (∀ i, 0 ≤ i → i < len → X (896 + 2 * r) i = v i) → 0 ≤ ii → (f : Int) = (len - ii) / 3 → 0 ≤ n ∧ n ≤ ii → (∀ X' : jM, Ceq X' (zClerk v f Z ii n).2 → X' 929 = X 929 → Q (zClerk v f Z ii n).1 X') → jE XX yX11_clerk cX11_clerk 5 (some .int) 4 Q X 35 [(0, jR 0), (1, jI r), (2, jR (895 + 2 * r)), (3, jI n), (4, jI ii)] [] := by
  intro f
  induction f with
  | zero =>
    intro X Z n ii hZ hq hlen hv i0 hf hn0 h
    refine e_iload 37 dX11_clerk_35 rfl rfl ?_
    refine e_iconst 38 dX11_clerk_37 rfl ?_
    refine e_iadd 39 dX11_clerk_38 rfl ?_
    refine e_aload_n (i := 2) 40 dX11_clerk_39 rfl rfl rfl ?_
    refine e_geti (j := 0) 43 fl_11_339 dX11_clerk_40 (at_row (by omega) (by omega)) (by decide) rfl rfl (fun r40 => ?_)
    refine e_icmp_gt 46 89 dX11_clerk_43 (by omega) (by omega) (by decide) rfl (fun b43 => ?_) (fun b43 => ?_)
    · skip
      refine e_iload_n (i := 3) 90 dX11_clerk_89 rfl rfl rfl ?_
      refine e_iret dX11_clerk_90 ?_
      exact h _ hq rfl
    · omega
  | succ f ih =>
    intro X Z n ii hZ hq hlen hv i0 hf hn0 h
    have hC := hZ.cr
    have hn := hC.cnt
    have hg := hC.rng
    have hu := hC.rule
    have x1 := hq 1 (by omega)
    have x6 := hq 6 (by omega)
    have y6 : X 1 6 = Z 1 6 := by rw [x1]
    have y8 : X 1 8 = Z 1 8 := by rw [x1]
    have y10 : X 1 10 = Z 1 10 := by rw [x1]
    have y12 : X 1 12 = Z 1 12 := by rw [x1]
    have y4 : X 1 4 = Z 1 4 := by rw [x1]
    have z1 : X 6 1 = Z 6 1 := by rw [x6]
    have hO := lOk_ceq hq hC.lrel.ok
    have hT := lTop_ceq hq
    have hT2 := hC.lrel.top
    have t0 := smallV_or (v ii)
    have t1 := smallV_or (v (ii + 1))
    have t2 := smallV_or (v (ii + 2))
    have htk : 0 ≤ tkNum (X 1 12 + 1) ∧ tkNum (X 1 12 + 1) ≤ 100000 := by
      unfold tkNum
      omega
    refine e_iload 37 dX11_clerk_35 rfl rfl ?_
    refine e_iconst 38 dX11_clerk_37 rfl ?_
    refine e_iadd 39 dX11_clerk_38 rfl ?_
    refine e_aload_n (i := 2) 40 dX11_clerk_39 rfl rfl rfl ?_
    refine e_geti (j := 0) 43 fl_11_339 dX11_clerk_40 (at_row (by omega) (by omega)) (by decide) rfl rfl (fun r40 => ?_)
    refine e_icmp_gt 46 89 dX11_clerk_43 (by omega) (by omega) (by decide) rfl (fun b43 => ?_) (fun b43 => ?_)
    · omega
    · skip
      have v0 := hv ii (by omega) (by omega)
      have v1 := hv (ii + 1) (by omega) (by omega)
      have v2 := hv (ii + 2) (by omega) (by omega)
      refine e_aload_n (i := 0) 47 dX11_clerk_46 rfl rfl rfl ?_
      refine e_getr (j := 0) 50 fl_11_10 dX11_clerk_47 at_0 rfl rfl tp_0_0 rfl ?_
      refine e_aload_n (i := 2) 51 dX11_clerk_50 rfl rfl rfl ?_
      refine e_iload 53 dX11_clerk_51 rfl rfl ?_
      refine e_callV 56 mt_yX7_small mv_yX7_small wd_1222 (by decide) dX11_clerk_53 (at_row (by omega) (by omega)) jc_7 rfl rfl rfl (Nat.le_of_ble_eq_true rfl) (jroom (by decide)) rfl (c_small (by omega) (by omega) ?_)
      dsimp only [jpush]
      rw [v0]
      refine e_aload_n (i := 2) 57 dX11_clerk_56 rfl rfl rfl ?_
      refine e_iload 59 dX11_clerk_57 rfl rfl ?_
      refine e_iconst 60 dX11_clerk_59 rfl ?_
      refine e_iadd 61 dX11_clerk_60 rfl ?_
      refine e_callV 64 mt_yX7_small mv_yX7_small wd_1222 (by decide) dX11_clerk_61 (at_row (by omega) (by omega)) jc_7 rfl rfl rfl (Nat.le_of_ble_eq_true rfl) (jroom (by decide)) rfl (c_small (by omega) (by omega) ?_)
      dsimp only [jpush]
      rw [v1]
      refine e_aload_n (i := 2) 65 dX11_clerk_64 rfl rfl rfl ?_
      refine e_iload 67 dX11_clerk_65 rfl rfl ?_
      refine e_iconst 68 dX11_clerk_67 rfl ?_
      refine e_iadd 69 dX11_clerk_68 rfl ?_
      refine e_callV 72 mt_yX7_small mv_yX7_small wd_1222 (by decide) dX11_clerk_69 (at_row (by omega) (by omega)) jc_7 rfl rfl rfl (Nat.le_of_ble_eq_true rfl) (jroom (by decide)) rfl (c_small (by omega) (by omega) ?_)
      dsimp only [jpush]
      rw [v2]
      refine e_callV 75 mt_yX8_lendOn mv_yX8_lendOn wd_774 (by decide) dX11_clerk_72 at_1 jc_8 rfl rfl rfl (Nat.le_of_ble_eq_true rfl) (jroom (by decide)) rfl (c_lendOn (by omega) (by omega) (by omega) (by omega) hO (by omega) (fun w72 => ?_) (fun w72 => ?_) (fun w72 => ?_) (fun w72 => ?_) (fun w72 => ?_))
      · dsimp only [jpush]
        (try simp (disch := omega) only [jset_k, jset_j, jset_same, true_and, and_true] at w72)
        refine e_if_ge 78 80 dX11_clerk_75 (by decide) (by decide) rfl (fun h => absurd h (by decide)) (fun _ => ?_)
        refine e_iload_n (i := 3) 79 dX11_clerk_78 rfl rfl rfl ?_
        refine e_iret dX11_clerk_79 ?_
        first
          | (have ez : zClerk v (f + 1) Z ii n = (n, Z) := by rw [zClerk, if_neg (by unfold zOk; omega)]
             rw [ez] at h
             exact h _ hq rfl)
          | (exfalso; omega)
      · dsimp only [jpush]
        (try simp (disch := omega) only [jset_k, jset_j, jset_same, true_and, and_true] at w72)
        refine e_if_ge 78 80 dX11_clerk_75 (by decide) (by decide) rfl (fun h => absurd h (by decide)) (fun _ => ?_)
        refine e_iload_n (i := 3) 79 dX11_clerk_78 rfl rfl rfl ?_
        refine e_iret dX11_clerk_79 ?_
        first
          | (have ez : zClerk v (f + 1) Z ii n = (n, Z) := by rw [zClerk, if_neg (by unfold zOk; omega)]
             rw [ez] at h
             exact h _ hq rfl)
          | (exfalso; omega)
      · dsimp only [jpush]
        (try simp (disch := omega) only [jset_k, jset_j, jset_same, true_and, and_true] at w72)
        refine e_if_ge 78 80 dX11_clerk_75 (by decide) (by decide) rfl (fun h => absurd h (by decide)) (fun _ => ?_)
        refine e_iload_n (i := 3) 79 dX11_clerk_78 rfl rfl rfl ?_
        refine e_iret dX11_clerk_79 ?_
        first
          | (have ez : zClerk v (f + 1) Z ii n = (n, Z) := by rw [zClerk, if_neg (by unfold zOk; omega)]
             rw [ez] at h
             exact h _ hq rfl)
          | (exfalso; omega)
      · dsimp only [jpush]
        (try simp (disch := omega) only [jset_k, jset_j, jset_same, true_and, and_true] at w72)
        refine e_if_ge 78 80 dX11_clerk_75 (by decide) (by decide) rfl (fun h => absurd h (by decide)) (fun _ => ?_)
        refine e_iload_n (i := 3) 79 dX11_clerk_78 rfl rfl rfl ?_
        refine e_iret dX11_clerk_79 ?_
        first
          | (have ez : zClerk v (f + 1) Z ii n = (n, Z) := by rw [zClerk, if_neg (by unfold zOk; omega)]
             rw [ez] at h
             exact h _ hq rfl)
          | (exfalso; omega)
      · dsimp only [jpush]
        (try simp (disch := omega) only [jset_k, jset_j, jset_same, true_and, and_true] at w72)
        refine e_if_ge 78 80 dX11_clerk_75 (by omega) (by decide) rfl (fun b75 => ?_) (fun b75 => ?_)
        · skip
          refine e_iinc (lsn := [(3, _), (0, _), (1, _), (2, _), (4, _)]) 83 dX11_clerk_80 rfl (by decide) rfl rfl ?_
          refine e_iinc (lsn := [(4, _), (3, _), (0, _), (1, _), (2, _)]) 86 dX11_clerk_83 rfl (by decide) rfl rfl ?_
          refine e_goto 35 dX11_clerk_86 (by decide) ?_
          refine e_ls (ls2 := [(0, _), (1, _), (2, _), (3, _), (4, _)]) rfl ?_
          first
            | (exfalso; omega)
            | (have q0 : smallV (v ii) = v ii := by omega
               have q1 : smallV (v (ii + 1)) = v (ii + 1) := by omega
               have q2 : smallV (v (ii + 2)) = v (ii + 2) := by omega
               have ok : zOk (Z 929) (v ii) (v (ii + 1)) (v (ii + 2)) := by unfold zOk; omega
               have ez : zClerk v (f + 1) Z ii n = zClerk v f (zStep Z (v ii) (v (ii + 1)) (v (ii + 2))) (ii + 3) (n + 1) := by rw [zClerk, if_pos ok]
               rw [ez] at h
               rw [q0, q1, q2]
               have hhi : ∀ q, 294 ≤ q → cLend X (v ii) (v (ii + 1)) (v (ii + 2)) q = X q := fun q e => cLend_hi e (by omega) (by omega) (by omega)
               refine ih _ (zStep Z (v ii) (v (ii + 1)) (v (ii + 2))) _ _ (zStep_inv hZ ok) (ceq_lend hq (by omega)) ?_ ?_ (by omega) (by omega) (by omega) ?_
               · rw [hhi _ (by omega)]
                 exact hlen
               · intro i i0 i1
                 rw [hhi _ (by omega)]
                 exact hv i i0 i1
               · intro X' a b
                 rw [hhi _ (by omega)] at b
                 exact h X' a b)
        · skip
          refine e_iload_n (i := 3) 79 dX11_clerk_78 rfl rfl rfl ?_
          refine e_iret dX11_clerk_79 ?_
          first
            | (have ez : zClerk v (f + 1) Z ii n = (n, Z) := by rw [zClerk, if_neg (by unfold zOk; omega)]
               rw [ez] at h
               exact h _ hq rfl)
            | (exfalso; omega)

theorem c_clerk {r : Int} {M : jM} {Q : Int → jM → Prop} (hI : Inv M) (hrr : -2147483648 ≤ r ∧ r ≤ 2147483647) (h2 : r < 0 ∨ 3 < r → Q (-2) M) (h6 : (0 ≤ r ∧ r ≤ 3) ∧ M 946 r = -1 → Q (-6) M) (h0 : (0 ≤ r ∧ r ≤ 3) ∧ M 946 r ≠ -1 → ∀ X' : jM, Ceq X' (zClerk (fun i => M 948 (40 * r + i)) (M 947 r / 3).toNat M 0 0).2 → X' 929 = M 929 → Q (zClerk (fun i => M 948 (40 * r + i)) (M 947 r / 3).toNat M 0 0).1 X') : jCt yX11_clerk cX11_clerk 5 (some .int) 4 [jR 0, jI r] M Q := by
  refine jCt_of mt_yX11_clerk (Nat.le_of_ble_eq_true rfl) (fun X => ?_)
  refine e_iload_n (i := 1) 1 dX11_clerk_0 rfl rfl rfl ?_
  refine e_iconst 2 dX11_clerk_1 rfl ?_
  refine e_iconst 3 dX11_clerk_2 rfl ?_
  refine e_callS 6 mt_yX11_within ms_yX11_within wd_531 (by decide) dX11_clerk_3 rfl rfl (Nat.le_of_ble_eq_true rfl) (jroom (by decide)) rfl (c_within (by omega) (by omega) (by omega) (fun w3 => ?_) (fun w3 => ?_))
  · dsimp only [jpush]
    refine e_if_ne 9 12 dX11_clerk_6 (by decide) (by decide) rfl (fun _ => ?_) (fun h => absurd h (by decide))
    refine e_aload_n (i := 0) 13 dX11_clerk_12 rfl rfl rfl ?_
    have hw := hI.2.2.2.2.2.1 r (by omega) (by omega)
    have hw2 : (M (895 + 2 * r) 0 = -1 ∧ M 946 r = -1) ∨ ((0 ≤ M 946 r ∧ M 946 r ≤ 3) ∧ (0 ≤ M 947 r ∧ M 947 r ≤ 40) ∧ M (895 + 2 * r) 0 = M 947 r ∧ M (895 + 2 * r) 1 = M 946 r) := hw.imp id (fun h => ⟨h.1, h.2.1, h.2.2.1, h.2.2.2.1⟩)
    refine e_getr (j := 4) 16 fl_11_33 dX11_clerk_13 at_0 rfl rfl tp_0_4 rfl ?_
    refine e_iload_n (i := 1) 17 dX11_clerk_16 rfl rfl rfl ?_
    refine e_aald 18 dX11_clerk_17 ar_894 (by decide) (by omega) (by omega) (tp_row (by omega) (by omega)) rfl ?_
    refine e_astore_n (i := 2) (lsn := [(2, _), (0, _), (1, _)]) 19 dX11_clerk_18 rfl (by decide) rfl rfl ?_
    refine e_aload_n (i := 2) 20 dX11_clerk_19 rfl rfl rfl ?_
    refine e_geti (j := 0) 23 fl_11_339 dX11_clerk_20 (at_row (by omega) (by omega)) (by decide) rfl rfl (fun r20 => ?_)
    refine e_iconst 24 dX11_clerk_23 rfl ?_
    refine e_icmp_ne 27 30 dX11_clerk_24 (by omega) (by decide) (by decide) rfl (fun b24 => ?_) (fun b24 => ?_)
    · skip
      refine e_iconst 31 dX11_clerk_30 rfl ?_
      refine e_istore_n (i := 3) (lsn := [(3, _), (2, _), (0, _), (1, _)]) 32 dX11_clerk_31 rfl (by decide) rfl rfl ?_
      refine e_iconst 33 dX11_clerk_32 rfl ?_
      refine e_istore (lsn := [(4, _), (3, _), (2, _), (0, _), (1, _)]) 35 dX11_clerk_33 (by decide) rfl rfl ?_
      refine e_ls (ls2 := [(0, _), (1, _), (2, _), (3, _), (4, _)]) rfl ?_
      have hw3 := hw.resolve_left (fun q => by omega)
      exact l_clerk (len := M 947 r) (v := fun i => M 948 (40 * r + i)) (by omega) (by omega) (M 947 r / 3).toNat M M 0 0 hI Ceq.rf (by omega) hw3.2.2.2.2 (by omega) (by omega) (by omega) (h0 (by omega))
    · skip
      refine e_bipush 29 dX11_clerk_27 (by decide) rfl ?_
      refine e_iret dX11_clerk_29 ?_
      first | exact h2 (by omega) | exact h6 (by omega)
  · dsimp only [jpush]
    refine e_if_ne 9 12 dX11_clerk_6 (by decide) (by decide) rfl (fun h => absurd h (by decide)) (fun _ => ?_)
    refine e_bipush 11 dX11_clerk_9 (by decide) rfl ?_
    refine e_iret dX11_clerk_11 ?_
    first | exact h2 (by omega) | exact h6 (by omega)

theorem lm_clerk {XX : jX} {r len : Int} {v : Int → Int} {W : jM} {Q : Int → jM → Prop} (hr : 0 ≤ r ∧ r < 4) (h40 : 0 ≤ len ∧ len ≤ 40) : ∀ (f : Nat) (Y Z : jM) (n ii : Int), Inv Z → Y 929 = Z 929 → Y 947 r = len → (∀ i, 0 ≤ i → i < len → Y 948 (40 * r + i) = v i) → 0 ≤ ii → (f : Int) = (len - ii) / 3 → 0 ≤ n ∧ n ≤ ii → (∀ k, k ≠ 929 → Y k = W k) → (∀ Y' : jM, Y' 929 = (zClerk v f Z ii n).2 929 → (∀ k, k ≠ 929 → Y' k = W k) → Q (zClerk v f Z ii n).1 Y') → jE XX yX12_clerk cX12_clerk 5 (some .int) 4 Q Y 37 [(0, jR 928), (1, jI r), (2, jI n), (3, jI ii)] [] := by
  intro f
  induction f with
  | zero =>
    intro Y Z n ii hZ hY hlen hv i0 hf hn0 hW h
    refine e_iload_n (i := 3) 38 dX12_clerk_37 rfl rfl rfl ?_
    refine e_iconst 39 dX12_clerk_38 rfl ?_
    refine e_iadd 40 dX12_clerk_39 rfl ?_
    refine e_aload_n (i := 0) 41 dX12_clerk_40 rfl rfl rfl ?_
    refine e_getr (j := 32) 44 fl_12_72 dX12_clerk_41 at_928 rfl rfl tp_928_32 rfl ?_
    refine e_iload_n (i := 1) 45 dX12_clerk_44 rfl rfl rfl ?_
    refine e_iald 46 dX12_clerk_45 ar_947 (by omega) (by omega) rfl (fun r45 => ?_)
    refine e_icmp_ge 49 100 dX12_clerk_46 (by omega) (by omega) (by decide) rfl (fun b46 => ?_) (fun b46 => ?_)
    · skip
      refine e_iload_n (i := 2) 101 dX12_clerk_100 rfl rfl rfl ?_
      refine e_iret dX12_clerk_101 ?_
      exact h _ hY hW
    · omega
  | succ f ih =>
    intro Y Z n ii hZ hY hlen hv i0 hf hn0 hW h
    have hC := hZ.cr
    have hn := hC.cnt
    have hg := hC.rng
    have htp := rTop_rng hC.rlaw
    refine e_iload_n (i := 3) 38 dX12_clerk_37 rfl rfl rfl ?_
    refine e_iconst 39 dX12_clerk_38 rfl ?_
    refine e_iadd 40 dX12_clerk_39 rfl ?_
    refine e_aload_n (i := 0) 41 dX12_clerk_40 rfl rfl rfl ?_
    refine e_getr (j := 32) 44 fl_12_72 dX12_clerk_41 at_928 rfl rfl tp_928_32 rfl ?_
    refine e_iload_n (i := 1) 45 dX12_clerk_44 rfl rfl rfl ?_
    refine e_iald 46 dX12_clerk_45 ar_947 (by omega) (by omega) rfl (fun r45 => ?_)
    refine e_icmp_ge 49 100 dX12_clerk_46 (by omega) (by omega) (by decide) rfl (fun b46 => ?_) (fun b46 => ?_)
    · omega
    · skip
      have v0 := hv ii (by omega) (by omega)
      have v1 := hv (ii + 1) (by omega) (by omega)
      have v2 := hv (ii + 2) (by omega) (by omega)
      rw [← Int.add_assoc] at v1 v2
      have htk : 0 ≤ tkNum (Z 929 1310 + 1) ∧ tkNum (Z 929 1310 + 1) ≤ 100000 := by
        unfold tkNum
        omega
      refine e_bipush 51 dX12_clerk_49 (by decide) rfl ?_
      refine e_iload_n (i := 1) 52 dX12_clerk_51 rfl rfl rfl ?_
      refine e_imul 53 dX12_clerk_52 rfl ?_
      refine e_iload_n (i := 3) 54 dX12_clerk_53 rfl rfl rfl ?_
      refine e_iadd 55 dX12_clerk_54 rfl ?_
      refine e_istore (lsn := [(4, _), (0, _), (1, _), (2, _), (3, _)]) 57 dX12_clerk_55 (by decide) rfl rfl ?_
      refine e_aload_n (i := 0) 58 dX12_clerk_57 rfl rfl rfl ?_
      refine e_aload_n (i := 0) 59 dX12_clerk_58 rfl rfl rfl ?_
      refine e_getr (j := 33) 62 fl_12_75 dX12_clerk_59 at_928 rfl rfl tp_928_33 rfl ?_
      refine e_iload 64 dX12_clerk_62 rfl rfl ?_
      refine e_lald 65 dX12_clerk_64 ar_948 (by omega) (by omega) rfl (fun r64 => ?_)
      rw [v0] at r64 ⊢
      refine e_aload_n (i := 0) 66 dX12_clerk_65 rfl rfl rfl ?_
      refine e_getr (j := 33) 69 fl_12_75 dX12_clerk_66 at_928 rfl rfl tp_928_33 rfl ?_
      refine e_iload 71 dX12_clerk_69 rfl rfl ?_
      refine e_iconst 72 dX12_clerk_71 rfl ?_
      refine e_iadd 73 dX12_clerk_72 rfl ?_
      refine e_lald 74 dX12_clerk_73 ar_948 (by omega) (by omega) rfl (fun r73 => ?_)
      rw [v1] at r73 ⊢
      refine e_aload_n (i := 0) 75 dX12_clerk_74 rfl rfl rfl ?_
      refine e_getr (j := 33) 78 fl_12_75 dX12_clerk_75 at_928 rfl rfl tp_928_33 rfl ?_
      refine e_iload 80 dX12_clerk_78 rfl rfl ?_
      refine e_iconst 81 dX12_clerk_80 rfl ?_
      refine e_iadd 82 dX12_clerk_81 rfl ?_
      refine e_lald 83 dX12_clerk_82 ar_948 (by omega) (by omega) rfl (fun r82 => ?_)
      rw [v2] at r82 ⊢
      refine e_callV 86 mt_yX12_pledges mv_yX12_pledges wd_1520 (by decide) dX12_clerk_83 at_928 jc_12 rfl rfl rfl (Nat.le_of_ble_eq_true rfl) (jroom (by decide)) rfl (m_pledges (by omega) (by omega) (by omega) (by rw [hY]; omega) (by rw [hY]; exact hC.rlaw) (fun w83 => ?_) (fun w83 => ?_) (fun w83 => ?_) (fun w83 => ?_) (fun w83 => ?_))
      · dsimp only [jpush]
        (try simp (disch := omega) only [jset_k, jset_j, jset_same, true_and, and_true] at w83)
        simp only [hY] at w83 ⊢
        refine e_if_ge 89 91 dX12_clerk_86 (by decide) (by decide) rfl (fun h => absurd h (by decide)) (fun _ => ?_)
        refine e_iload_n (i := 2) 90 dX12_clerk_89 rfl rfl rfl ?_
        refine e_iret dX12_clerk_90 ?_
        first
          | (have ez : zClerk v (f + 1) Z ii n = (n, Z) := by rw [zClerk, if_neg (by unfold zOk; omega)]
             rw [ez] at h
             exact h _ hY (fun k e => hW k e))
          | (exfalso; omega)
      · dsimp only [jpush]
        (try simp (disch := omega) only [jset_k, jset_j, jset_same, true_and, and_true] at w83)
        simp only [hY] at w83 ⊢
        refine e_if_ge 89 91 dX12_clerk_86 (by decide) (by decide) rfl (fun h => absurd h (by decide)) (fun _ => ?_)
        refine e_iload_n (i := 2) 90 dX12_clerk_89 rfl rfl rfl ?_
        refine e_iret dX12_clerk_90 ?_
        first
          | (have ez : zClerk v (f + 1) Z ii n = (n, Z) := by rw [zClerk, if_neg (by unfold zOk; omega)]
             rw [ez] at h
             exact h _ hY (fun k e => hW k e))
          | (exfalso; omega)
      · dsimp only [jpush]
        (try simp (disch := omega) only [jset_k, jset_j, jset_same, true_and, and_true] at w83)
        simp only [hY] at w83 ⊢
        refine e_if_ge 89 91 dX12_clerk_86 (by decide) (by decide) rfl (fun h => absurd h (by decide)) (fun _ => ?_)
        refine e_iload_n (i := 2) 90 dX12_clerk_89 rfl rfl rfl ?_
        refine e_iret dX12_clerk_90 ?_
        first
          | (have ez : zClerk v (f + 1) Z ii n = (n, Z) := by rw [zClerk, if_neg (by unfold zOk; omega)]
             rw [ez] at h
             exact h _ hY (fun k e => hW k e))
          | (exfalso; omega)
      · dsimp only [jpush]
        (try simp (disch := omega) only [jset_k, jset_j, jset_same, true_and, and_true] at w83)
        simp only [hY] at w83 ⊢
        refine e_if_ge 89 91 dX12_clerk_86 (by decide) (by decide) rfl (fun h => absurd h (by decide)) (fun _ => ?_)
        refine e_iload_n (i := 2) 90 dX12_clerk_89 rfl rfl rfl ?_
        refine e_iret dX12_clerk_90 ?_
        first
          | (have ez : zClerk v (f + 1) Z ii n = (n, Z) := by rw [zClerk, if_neg (by unfold zOk; omega)]
             rw [ez] at h
             exact h _ hY (fun k e => hW k e))
          | (exfalso; omega)
      · dsimp only [jpush]
        (try simp (disch := omega) only [jset_k, jset_j, jset_same, true_and, and_true] at w83)
        simp only [hY] at w83 ⊢
        refine e_if_ge 89 91 dX12_clerk_86 (by omega) (by decide) rfl (fun b86 => ?_) (fun b86 => ?_)
        · skip
          refine e_iinc (lsn := [(2, _), (4, _), (0, _), (1, _), (3, _)]) 94 dX12_clerk_91 rfl (by decide) rfl rfl ?_
          refine e_iinc (lsn := [(3, _), (2, _), (4, _), (0, _), (1, _)]) 97 dX12_clerk_94 rfl (by decide) rfl rfl ?_
          refine e_goto 37 dX12_clerk_97 (by decide) ?_
          refine e_ls (ls2 := [(0, _), (1, _), (2, _), (3, _)]) rfl ?_
          first
            | (exfalso; omega)
            | (have ok : zOk (Z 929) (v ii) (v (ii + 1)) (v (ii + 2)) := by unfold zOk; omega
               have ez : zClerk v (f + 1) Z ii n = zClerk v f (zStep Z (v ii) (v (ii + 1)) (v (ii + 2))) (ii + 3) (n + 1) := by rw [zClerk, if_pos ok]
               rw [ez] at h
               refine ih _ (zStep Z (v ii) (v (ii + 1)) (v (ii + 2))) _ _ (zStep_inv hZ ok) (zStep_929 hZ ok hY) ?_ ?_ (by omega) (by omega) (by omega) (fun k e => (rLend_row e).trans (hW k e)) h
               · rw [rLend_row (by omega)]
                 exact hlen
               · intro i i0 i1
                 rw [rLend_row (by omega)]
                 exact hv i i0 i1)
        · skip
          refine e_iload_n (i := 2) 90 dX12_clerk_89 rfl rfl rfl ?_
          refine e_iret dX12_clerk_90 ?_
          first
            | (have ez : zClerk v (f + 1) Z ii n = (n, Z) := by rw [zClerk, if_neg (by unfold zOk; omega)]
               rw [ez] at h
               exact h _ hY (fun k e => hW k e))
            | (exfalso; omega)

theorem m_clerk {r : Int} {M Z W : jM} {Q : Int → jM → Prop} (hI : Inv Z) (hrr : -2147483648 ≤ r ∧ r ≤ 2147483647) (hY : M 929 = Z 929) (ht : M 928 0 = 0) (h946 : M 946 = Z 946) (h947 : M 947 = Z 947) (h948 : M 948 = Z 948) (hW : ∀ k, k ≠ 929 → M k = W k) (h2 : r < 0 ∨ 3 < r → Q (-2) M) (h6 : (0 ≤ r ∧ r ≤ 3) ∧ Z 946 r = -1 → Q (-6) M) (h0 : (0 ≤ r ∧ r ≤ 3) ∧ Z 946 r ≠ -1 → ∀ Y' : jM, Y' 929 = (zClerk (fun i => Z 948 (40 * r + i)) (Z 947 r / 3).toNat Z 0 0).2 929 → (∀ k, k ≠ 929 → Y' k = W k) → Q (zClerk (fun i => Z 948 (40 * r + i)) (Z 947 r / 3).toNat Z 0 0).1 Y') : jCt yX12_clerk cX12_clerk 5 (some .int) 4 [jR 928, jI r] M Q := by
  refine jCt_of mt_yX12_clerk (Nat.le_of_ble_eq_true rfl) (fun X => ?_)
  have e6 : M 946 r = Z 946 r := by rw [h946]
  have e7 : M 947 r = Z 947 r := by rw [h947]
  refine e_aload_n (i := 0) 1 dX12_clerk_0 rfl rfl rfl ?_
  refine e_iconst 2 dX12_clerk_1 rfl ?_
  refine e_put0 (j := 0) 5 fl_12_1 dX12_clerk_2 at_928 rfl rfl rfl (by decide) ht rfl ?_
  refine e_iload_n (i := 1) 6 dX12_clerk_5 rfl rfl rfl ?_
  refine e_i2l 7 dX12_clerk_6 (by omega) rfl ?_
  refine e_lconst0 8 dX12_clerk_7 rfl ?_
  refine e_ldc2 (z := (3)) 11 (ix := 159) wd_1442 (by decide) dX12_clerk_8 rfl ?_
  refine e_callS 14 mt_yX12_within ms_yX12_within wd_1390 (by decide) dX12_clerk_11 rfl rfl (Nat.le_of_ble_eq_true rfl) (jroom (by decide)) rfl (m_within (by omega) (by omega) (by omega) (fun w11 => ?_) (fun w11 => ?_))
  · dsimp only [jpush]
    refine e_if_ne 17 20 dX12_clerk_14 (by decide) (by decide) rfl (fun _ => ?_) (fun h => absurd h (by decide))
    have hw := hI.2.2.2.2.2.1 r (by omega) (by omega)
    have hw2 : (Z (895 + 2 * r) 0 = -1 ∧ Z 946 r = -1) ∨ ((0 ≤ Z 946 r ∧ Z 946 r ≤ 3) ∧ (0 ≤ Z 947 r ∧ Z 947 r ≤ 40) ∧ Z (895 + 2 * r) 0 = Z 947 r ∧ Z (895 + 2 * r) 1 = Z 946 r) := hw.imp id (fun h => ⟨h.1, h.2.1, h.2.2.1, h.2.2.2.1⟩)
    refine e_aload_n (i := 0) 21 dX12_clerk_20 rfl rfl rfl ?_
    refine e_getr (j := 31) 24 fl_12_69 dX12_clerk_21 at_928 rfl rfl tp_928_31 rfl ?_
    refine e_iload_n (i := 1) 25 dX12_clerk_24 rfl rfl rfl ?_
    refine e_iald 26 dX12_clerk_25 ar_946 (by omega) (by omega) rfl (fun r25 => ?_)
    refine e_iconst 27 dX12_clerk_26 rfl ?_
    refine e_icmp_ne 30 33 dX12_clerk_27 (by omega) (by decide) (by decide) rfl (fun b27 => ?_) (fun b27 => ?_)
    · skip
      refine e_iconst 34 dX12_clerk_33 rfl ?_
      refine e_istore_n (i := 2) (lsn := [(2, _), (0, _), (1, _)]) 35 dX12_clerk_34 rfl (by decide) rfl rfl ?_
      refine e_iconst 36 dX12_clerk_35 rfl ?_
      refine e_istore_n (i := 3) (lsn := [(3, _), (2, _), (0, _), (1, _)]) 37 dX12_clerk_36 rfl (by decide) rfl rfl ?_
      refine e_ls (ls2 := [(0, _), (1, _), (2, _), (3, _)]) rfl ?_
      exact lm_clerk (len := Z 947 r) (v := fun i => Z 948 (40 * r + i)) (W := W) (by omega) (by omega) (Z 947 r / 3).toNat M Z 0 0 hI hY e7 (fun i _ _ => by rw [h948]) (by omega) (by omega) (by omega) hW (h0 (by omega))
    · skip
      refine e_bipush 32 dX12_clerk_30 (by decide) rfl ?_
      refine e_iret dX12_clerk_32 ?_
      first | exact h2 (by omega) | exact h6 (by omega)
  · dsimp only [jpush]
    refine e_if_ne 17 20 dX12_clerk_14 (by decide) (by decide) rfl (fun h => absurd h (by decide)) (fun _ => ?_)
    refine e_bipush 19 dX12_clerk_17 (by decide) rfl ?_
    refine e_iret dX12_clerk_19 ?_
    first | exact h2 (by omega) | exact h6 (by omega)

theorem p_clerk {M : jM} (hI : Inv M) {r : Int} (hr : -2147483648 ≤ r ∧ r ≤ 2147483647) : jCt yX11_clerk cX11_clerk 5 (some .int) 4 [jR 0, jI r] M (fun z M1 => jCt yX12_clerk cX12_clerk 5 (some .int) 4 [jR 928, jI r] M1 (fun z2 M2 => z = z2 ∧ Inv M2)) := by
  refine c_clerk hI hr (fun w => ?_) (fun w => ?_) (fun w X' a b => ?_)
  · exact m_clerk (Z := M) (W := M) hI hr rfl hI.1 rfl rfl rfl (fun _ _ => rfl) (fun w2 => ⟨rfl, hI⟩) (fun w2 => by omega) (fun w2 => by omega)
  · exact m_clerk (Z := M) (W := M) hI hr rfl hI.1 rfl rfl rfl (fun _ _ => rfl) (fun w2 => by omega) (fun w2 => ⟨rfl, hI⟩) (fun w2 => by omega)
  · have hz := fun q (e : 294 ≤ q) (e9 : q ≠ 929) => (a q e9).trans (zClerk_hi (v := fun i => M 948 (40 * r + i)) e e9 (M 947 r / 3).toNat M 0 0 hI)
    refine m_clerk (Z := M) (W := X') hI hr b (by rw [hz 928 (by omega) (by omega)]; exact hI.1) (hz 946 (by omega) (by omega)) (hz 947 (by omega) (by omega)) (hz 948 (by omega) (by omega)) (fun _ _ => rfl) (fun w2 => by omega) (fun w2 => by omega) (fun w2 Y' e1 e2 => ?_)
    refine ⟨rfl, inv_eq (zClerk_inv (v := fun i => M 948 (40 * r + i)) (M 947 r / 3).toNat M 0 0 hI) (fun k e => ?_) e1⟩
    rw [e2 k e, a k e]

