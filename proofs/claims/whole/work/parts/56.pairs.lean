/-! PAIRS: chain -/
def ahead (a : Int → Int) (q : Int) (p : Nat) (f : Int → Int) : Nat → Int
  | 0 => 0
  | k + 1 => if a (770 + (k : Int)) = q ∧ a (1010 + (k : Int)) = 1 ∧ a (1190 + (k : Int)) = a (1130 + (p : Int)) then max (ahead a q p f k) (f k) else ahead a q p f k
def chA (a : Int → Int) (q : Int) : Nat → Int → Int
  | 0, _ => 0
  | n + 1, j => if j = (n : Int) then (if a (770 + (n : Int)) = q then 1 + ahead a q n (chA a q n) n else 0) else chA a q n j
def chM (a : Int → Int) (q : Int) : Nat → Int
  | 0 => 0
  | n + 1 => if a (770 + (n : Int)) = q then max (chM a q n) (chA a q (n + 1) n) else chM a q n
theorem ahead_rng {a : Int → Int} {q B : Int} {p : Nat} {f : Int → Int} (hB : 0 ≤ B) (h : ∀ j, 0 ≤ f j ∧ f j ≤ B) : ∀ k : Nat, 0 ≤ ahead a q p f k ∧ ahead a q p f k ≤ B
  | 0 => by
    unfold ahead
    omega
  | k + 1 => by
    have ih := ahead_rng (a := a) (q := q) (p := p) hB h k
    have := h k
    unfold ahead
    split <;> omega
theorem chA_rng {a : Int → Int} {q : Int} : ∀ (n : Nat) (j : Int), 0 ≤ chA a q n j ∧ chA a q n j ≤ n
  | 0, _ => by
    unfold chA
    omega
  | n + 1, j => by
    have ih := chA_rng (a := a) (q := q) n
    have := ih j
    have h := ahead_rng (a := a) (q := q) (p := n) (B := n) (by omega) ih n
    unfold chA
    split
    · split <;> omega
    · omega
theorem chA_pos {a : Int → Int} {q : Int} : ∀ (n k : Nat), k < n → (0 < chA a q n k ↔ a (770 + (k : Int)) = q)
  | 0, _, h => by omega
  | n + 1, k, h => by
    have h2 := ahead_rng (a := a) (q := q) (p := n) (f := chA a q n) (B := n) (by omega) (chA_rng n) n
    unfold chA
    by_cases e : k = n
    · subst e
      rw [if_pos rfl]
      split <;> omega
    · rw [if_neg (by omega)]
      exact chA_pos n k (by omega)
theorem chM_rng {a : Int → Int} {q : Int} : ∀ n : Nat, 0 ≤ chM a q n ∧ chM a q n ≤ n
  | 0 => by
    unfold chM
    omega
  | n + 1 => by
    have ih := chM_rng (a := a) (q := q) n
    have := chA_rng (a := a) (q := q) (n + 1) n
    unfold chM
    split <;> omega
theorem l_ahead {X : jX} {q : Int} {p : Nat} {f : Int → Int} {M : jM} {Q : Int → jM → Prop} (hC : CR M) (hp : (p : Int) < M 929 709) (hq : -2147483648 ≤ q ∧ q ≤ 2147483647) (hf : ∀ k : Nat, k < p → M 929 (770 + (k : Int)) = q → M 924 k = f k) (hfr : ∀ j, 0 ≤ f j ∧ f j ≤ 60) (h : Q (ahead (M 929) q p f p) M) : ∀ n i : Nat, i + n = p → ∀ s ii : Int, ii = i → s = ahead (M 929) q p f i → jE X yX4_longestAhead cX4_longestAhead 7 (some .int) 1 Q M 6 [(0, jR 903), (1, jR 1), (2, jI (p : Int)), (3, jI q), (4, jI s), (5, jI ii)] [] := by
  intro n
  have hn := hC.cnt
  have hg := hC.rng
  have hP := hC.pl (p := (p : Int)) (by omega) hp
  induction n with
  | zero =>
    intro i hi s ii hii hs
    have e : i = p := by omega
    rw [e] at hs
    rw [← hs] at h
    refine e_iload 8 dX4_longestAhead_6 rfl rfl ?_
    refine e_iload_n (i := 2) 9 dX4_longestAhead_8 rfl rfl rfl ?_
    refine e_icmp_ge 12 76 dX4_longestAhead_9 (by omega) (by omega) (by decide) rfl (fun b9 => ?_) (fun b9 => ?_)
    · skip
      refine e_iload 78 dX4_longestAhead_76 rfl rfl ?_
      refine e_iret dX4_longestAhead_78 ?_
      exact h
    · omega
  | succ n ih =>
    intro i hi s ii hii hs
    have hk := hC.pl (p := ii) (by omega) (by omega)
    have hkr := hC.plr (p := ii) (by omega) (by omega)
    have hsr := ahead_rng (a := M 929) (q := q) (p := p) (f := f) (B := 60) (by omega) hfr i
    have hfi := hfr i
    have hfe := hf i (by omega)
    rw [← hii] at hfe hfi
    refine e_iload 8 dX4_longestAhead_6 rfl rfl ?_
    refine e_iload_n (i := 2) 9 dX4_longestAhead_8 rfl rfl rfl ?_
    refine e_icmp_ge 12 76 dX4_longestAhead_9 (by omega) (by omega) (by decide) rfl (fun b9 => ?_) (fun b9 => ?_)
    · omega
    · skip
      refine e_aload_n (i := 1) 13 dX4_longestAhead_12 rfl rfl rfl ?_
      refine e_getr (j := 9) 16 fl_4_65 dX4_longestAhead_13 at_1 rfl rfl tp_1_9 rfl ?_
      refine e_iload 18 dX4_longestAhead_16 rfl rfl ?_
      refine e_aald 19 dX4_longestAhead_18 ar_18 (by decide) (by omega) (by omega) (tp_pledge (by omega) (by omega)) rfl ?_
      refine e_astore (lsn := [(6, _), (0, _), (1, _), (2, _), (3, _), (4, _), (5, _)]) 21 dX4_longestAhead_19 (by decide) rfl rfl ?_
      refine e_aload 23 dX4_longestAhead_21 rfl rfl ?_
      refine e_geti (j := 1) 26 fl_4_158 dX4_longestAhead_23 (at_pledge (by omega) (by omega)) (by decide) rfl rfl (fun r23 => ?_)
      refine e_iload_n (i := 3) 27 dX4_longestAhead_26 rfl rfl rfl ?_
      refine e_icmp_ne 30 70 dX4_longestAhead_27 (by omega) (by omega) (by decide) rfl (fun b27 => ?_) (fun b27 => ?_)
      · skip
        refine e_iinc (lsn := [(5, _), (6, _), (0, _), (1, _), (2, _), (3, _), (4, _)]) 73 dX4_longestAhead_70 rfl (by decide) rfl rfl ?_
        refine e_goto 6 dX4_longestAhead_73 (by decide) ?_
        refine e_ls (ls2 := [(0, _), (1, _), (2, _), (3, _), (4, _), (5, _)]) rfl ?_
        refine ih (i + 1) (by omega) _ _ (by omega) ?_
        rw [ahead, if_neg (by rw [← hii]; omega), ← hs]
      · skip
        refine e_aload 32 dX4_longestAhead_30 rfl rfl ?_
        refine e_geti (j := 6) 35 fl_4_99 dX4_longestAhead_32 (at_pledge (by omega) (by omega)) (by decide) rfl rfl (fun r32 => ?_)
        refine e_iconst 36 dX4_longestAhead_35 rfl ?_
        refine e_icmp_ne 39 70 dX4_longestAhead_36 (by omega) (by decide) (by decide) rfl (fun b36 => ?_) (fun b36 => ?_)
        · skip
          refine e_iinc (lsn := [(5, _), (6, _), (0, _), (1, _), (2, _), (3, _), (4, _)]) 73 dX4_longestAhead_70 rfl (by decide) rfl rfl ?_
          refine e_goto 6 dX4_longestAhead_73 (by decide) ?_
          refine e_ls (ls2 := [(0, _), (1, _), (2, _), (3, _), (4, _), (5, _)]) rfl ?_
          refine ih (i + 1) (by omega) _ _ (by omega) ?_
          rw [ahead, if_neg (by rw [← hii]; omega), ← hs]
        · skip
          refine e_aload 41 dX4_longestAhead_39 rfl rfl ?_
          refine e_geti (j := 8) 44 fl_4_165 dX4_longestAhead_41 (at_pledge (by omega) (by omega)) (by decide) rfl rfl (fun r41 => ?_)
          refine e_aload_n (i := 1) 45 dX4_longestAhead_44 rfl rfl rfl ?_
          refine e_getr (j := 9) 48 fl_4_65 dX4_longestAhead_45 at_1 rfl rfl tp_1_9 rfl ?_
          refine e_iload_n (i := 2) 49 dX4_longestAhead_48 rfl rfl rfl ?_
          refine e_aald 50 dX4_longestAhead_49 ar_18 (by decide) (by omega) (by omega) (tp_pledge (by omega) (by omega)) rfl ?_
          refine e_geti (j := 4) 53 fl_4_168 dX4_longestAhead_50 (at_pledge (by omega) (by omega)) (by decide) rfl rfl (fun r50 => ?_)
          refine e_icmp_ne 56 70 dX4_longestAhead_53 (by omega) (by omega) (by decide) rfl (fun b53 => ?_) (fun b53 => ?_)
          · skip
            refine e_iinc (lsn := [(5, _), (6, _), (0, _), (1, _), (2, _), (3, _), (4, _)]) 73 dX4_longestAhead_70 rfl (by decide) rfl rfl ?_
            refine e_goto 6 dX4_longestAhead_73 (by decide) ?_
            refine e_ls (ls2 := [(0, _), (1, _), (2, _), (3, _), (4, _), (5, _)]) rfl ?_
            refine ih (i + 1) (by omega) _ _ (by omega) ?_
            rw [ahead, if_neg (by rw [← hii]; omega), ← hs]
          · skip
            refine e_iload 58 dX4_longestAhead_56 rfl rfl ?_
            refine e_aload_n (i := 0) 59 dX4_longestAhead_58 rfl rfl rfl ?_
            refine e_getr (j := 10) 62 fl_4_42 dX4_longestAhead_59 at_903 rfl rfl tp_903_10 rfl ?_
            refine e_iload 64 dX4_longestAhead_62 rfl rfl ?_
            refine e_iald 65 dX4_longestAhead_64 ar_924 (by omega) (by omega) rfl (fun r64 => ?_)
            rw [hfe (by omega)] at r64 ⊢
            refine e_maxI 68 wd_999 dX4_longestAhead_65 (by omega) (by omega) (Nat.le_of_ble_eq_true rfl) (jroom (by decide)) rfl ?_
            refine e_istore (lsn := [(4, _), (6, _), (0, _), (1, _), (2, _), (3, _), (5, _)]) 70 dX4_longestAhead_68 (by decide) rfl rfl ?_
            refine e_iinc (lsn := [(5, _), (4, _), (6, _), (0, _), (1, _), (2, _), (3, _)]) 73 dX4_longestAhead_70 rfl (by decide) rfl rfl ?_
            refine e_goto 6 dX4_longestAhead_73 (by decide) ?_
            refine e_ls (ls2 := [(0, _), (1, _), (2, _), (3, _), (4, _), (5, _)]) rfl ?_
            refine ih (i + 1) (by omega) _ _ (by omega) ?_
            rw [ahead, if_pos (by rw [← hii]; omega), ← hs]
            rw [← hii]

theorem c_ahead {q : Int} {p : Nat} {f : Int → Int} {M : jM} {Q : Int → jM → Prop} (hC : CR M) (hp : (p : Int) < M 929 709) (hq : -2147483648 ≤ q ∧ q ≤ 2147483647) (hf : ∀ k : Nat, k < p → M 929 (770 + (k : Int)) = q → M 924 k = f k) (hfr : ∀ j, 0 ≤ f j ∧ f j ≤ 60) (h : Q (ahead (M 929) q p f p) M) : jCt yX4_longestAhead cX4_longestAhead 7 (some .int) 1 [jR 903, jR 1, jI (p : Int), jI q] M Q := by
  refine jCt_of mt_yX4_longestAhead (Nat.le_of_ble_eq_true rfl) (fun X => ?_)
  refine e_iconst 1 dX4_longestAhead_0 rfl ?_
  refine e_istore (lsn := [(4, _), (0, _), (1, _), (2, _), (3, _)]) 3 dX4_longestAhead_1 (by decide) rfl rfl ?_
  refine e_iconst 4 dX4_longestAhead_3 rfl ?_
  refine e_istore (lsn := [(5, _), (4, _), (0, _), (1, _), (2, _), (3, _)]) 6 dX4_longestAhead_4 (by decide) rfl rfl ?_
  refine e_ls (ls2 := [(0, _), (1, _), (2, _), (3, _), (4, _), (5, _)]) rfl ?_
  exact l_ahead hC hp hq hf hfr h p 0 (by omega) _ _ rfl rfl

theorem l_chain {X : jX} {q : Int} {M : jM} {Q : Int → jM → Prop} (hC : CR M) (hq : -2147483648 ≤ q ∧ q ≤ 2147483647) (h : ∀ Y : jM, Scr M Y → Q (chM (M 929) q (M 929 709).toNat) Y) : ∀ n i : Nat, (i : Int) + n = M 929 709 → ∀ (Y : jM) (s ii : Int), ii = i → s = chM (M 929) q i → Scr M Y → (∀ k : Nat, k < i → M 929 (770 + (k : Int)) = q → Y 924 k = chA (M 929) q i k) → jE X yX4_longestChain cX4_longestChain 5 (some .int) 2 Q Y 5 [(0, jR 903), (1, jR 1), (2, jI q), (3, jI s), (4, jI ii)] [] := by
  intro n
  have hg := hC.rng
  induction n with
  | zero =>
    intro i hi Y s ii hii hs hS hF
    have hCY := hS.cr hC
    have hnY := hCY.cnt
    have e9 := hS.row
    have e9a : Y 929 709 = M 929 709 := by rw [e9]
    have e : (M 929 709).toNat = i := by omega
    rw [e, ← hs] at h
    refine e_iload 7 dX4_longestChain_5 rfl rfl ?_
    refine e_aload_n (i := 1) 8 dX4_longestChain_7 rfl rfl rfl ?_
    refine e_geti (j := 10) 11 fl_4_96 dX4_longestChain_8 at_1 (by decide) rfl rfl (fun r8 => ?_)
    refine e_icmp_ge 14 63 dX4_longestChain_11 (by omega) (by omega) (by decide) rfl (fun b11 => ?_) (fun b11 => ?_)
    · skip
      refine e_iload_n (i := 3) 64 dX4_longestChain_63 rfl rfl rfl ?_
      refine e_iret dX4_longestChain_64 ?_
      exact h Y hS
    · omega
  | succ n ih =>
    intro i hi Y s ii hii hs hS hF
    have hCY := hS.cr hC
    have hnY := hCY.cnt
    have e9 := hS.row
    have e9a : Y 929 709 = M 929 709 := by rw [e9]
    subst hii
    have hP := hCY.pl (p := (i : Int)) (by omega) (by omega)
    have e9b : Y 929 (770 + (i : Int)) = M 929 (770 + (i : Int)) := by rw [e9]
    have hsr := chM_rng (a := M 929) (q := q) i
    have har := ahead_rng (a := M 929) (q := q) (p := i) (f := chA (M 929) q i) (B := 60) (by omega) (fun j => by have := chA_rng (a := M 929) (q := q) i j; omega) i
    refine e_iload 7 dX4_longestChain_5 rfl rfl ?_
    refine e_aload_n (i := 1) 8 dX4_longestChain_7 rfl rfl rfl ?_
    refine e_geti (j := 10) 11 fl_4_96 dX4_longestChain_8 at_1 (by decide) rfl rfl (fun r8 => ?_)
    refine e_icmp_ge 14 63 dX4_longestChain_11 (by omega) (by omega) (by decide) rfl (fun b11 => ?_) (fun b11 => ?_)
    · omega
    · skip
      refine e_aload_n (i := 1) 15 dX4_longestChain_14 rfl rfl rfl ?_
      refine e_getr (j := 9) 18 fl_4_65 dX4_longestChain_15 at_1 rfl rfl tp_1_9 rfl ?_
      refine e_iload 20 dX4_longestChain_18 rfl rfl ?_
      refine e_aald 21 dX4_longestChain_20 ar_18 (by decide) (by omega) (by omega) (tp_pledge (by omega) (by omega)) rfl ?_
      refine e_geti (j := 1) 24 fl_4_158 dX4_longestChain_21 (at_pledge (by omega) (by omega)) (by decide) rfl rfl (fun r21 => ?_)
      refine e_iload_n (i := 2) 25 dX4_longestChain_24 rfl rfl rfl ?_
      refine e_icmp_ne 28 57 dX4_longestChain_25 (by omega) (by omega) (by decide) rfl (fun b25 => ?_) (fun b25 => ?_)
      · skip
        refine e_iinc (lsn := [(4, _), (0, _), (1, _), (2, _), (3, _)]) 60 dX4_longestChain_57 rfl (by decide) rfl rfl ?_
        refine e_goto 5 dX4_longestChain_60 (by decide) ?_
        refine e_ls (ls2 := [(0, _), (1, _), (2, _), (3, _), (4, _)]) rfl ?_
        refine ih (i + 1) (by omega) Y _ _ (by omega) ?_ hS ?_
        · rw [chM, if_neg (by omega)]
          exact hs
        · intro k hk hk2
          have e : k ≠ i := fun q => by subst q; omega
          rw [chA, if_neg (by omega)]
          exact hF k (by omega) hk2
      · skip
        refine e_aload_n (i := 0) 29 dX4_longestChain_28 rfl rfl rfl ?_
        refine e_getr (j := 10) 32 fl_4_42 dX4_longestChain_29 at_903 rfl rfl tp_903_10 rfl ?_
        refine e_iload 34 dX4_longestChain_32 rfl rfl ?_
        refine e_iconst 35 dX4_longestChain_34 rfl ?_
        refine e_aload_n (i := 0) 36 dX4_longestChain_35 rfl rfl rfl ?_
        refine e_aload_n (i := 1) 37 dX4_longestChain_36 rfl rfl rfl ?_
        refine e_iload 39 dX4_longestChain_37 rfl rfl ?_
        refine e_iload_n (i := 2) 40 dX4_longestChain_39 rfl rfl rfl ?_
        refine e_callV 43 mt_yX4_longestAhead mv_yX4_longestAhead wd_1090 (by decide) dX4_longestChain_40 at_903 jc_4 rfl rfl rfl (Nat.le_of_ble_eq_true rfl) (jroom (by decide)) rfl (c_ahead (p := i) (f := chA (M 929) q i) hCY (by omega) hq (fun k a b => hF k a (by rw [← e9]; exact b)) (fun j => by have := chA_rng (a := M 929) (q := q) i j; omega) ?_)
        dsimp only [jpush]
        rw [e9]
        refine e_iadd 44 dX4_longestChain_43 rfl ?_
        refine e_iast 45 dX4_longestChain_44 ar_924 (by omega) (by omega) (by omega) rfl ?_
        refine e_iload_n (i := 3) 46 dX4_longestChain_45 rfl rfl rfl ?_
        refine e_aload_n (i := 0) 47 dX4_longestChain_46 rfl rfl rfl ?_
        refine e_getr (j := 10) 50 fl_4_42 dX4_longestChain_47 at_903 rfl rfl tp_903_10 rfl ?_
        refine e_iload 52 dX4_longestChain_50 rfl rfl ?_
        refine e_iald 53 dX4_longestChain_52 ar_924 (by omega) (by omega) rfl (fun r52 => ?_)
        simp (disch := omega) only [jset_k, jset_j, jset_same, true_and, and_true] at r52 ⊢
        refine e_maxI 56 wd_999 dX4_longestChain_53 (by omega) (by omega) (Nat.le_of_ble_eq_true rfl) (jroom (by decide)) rfl ?_
        refine e_istore_n (i := 3) (lsn := [(3, _), (0, _), (1, _), (2, _), (4, _)]) 57 dX4_longestChain_56 rfl (by decide) rfl rfl ?_
        refine e_iinc (lsn := [(4, _), (3, _), (0, _), (1, _), (2, _)]) 60 dX4_longestChain_57 rfl (by decide) rfl rfl ?_
        refine e_goto 5 dX4_longestChain_60 (by decide) ?_
        refine e_ls (ls2 := [(0, _), (1, _), (2, _), (3, _), (4, _)]) rfl ?_
        refine ih (i + 1) (by omega) _ _ _ (by omega) ?_ (hS.set (by omega)) ?_
        · rw [chM, if_pos (by omega), ← hs, chA, if_pos rfl, if_pos (by omega)]
        · intro k hk hk2
          by_cases e : k = i
          · subst e
            rw [jset_same, chA, if_pos rfl, if_pos (by omega)]
          · rw [jset_j (by omega), chA, if_neg (by omega)]
            exact hF k (by omega) hk2

theorem c_longest {q : Int} {M : jM} {Q : Int → jM → Prop} (hC : CR M) (hq : -2147483648 ≤ q ∧ q ≤ 2147483647) (h : ∀ Y : jM, Scr M Y → Q (chM (M 929) q (M 929 709).toNat) Y) : jCt yX4_longestChain cX4_longestChain 5 (some .int) 2 [jR 903, jR 1, jI q] M Q := by
  refine jCt_of mt_yX4_longestChain (Nat.le_of_ble_eq_true rfl) (fun X => ?_)
  have hg := hC.rng
  refine e_iconst 1 dX4_longestChain_0 rfl ?_
  refine e_istore_n (i := 3) (lsn := [(3, _), (0, _), (1, _), (2, _)]) 2 dX4_longestChain_1 rfl (by decide) rfl rfl ?_
  refine e_iconst 3 dX4_longestChain_2 rfl ?_
  refine e_istore (lsn := [(4, _), (3, _), (0, _), (1, _), (2, _)]) 5 dX4_longestChain_3 (by decide) rfl rfl ?_
  refine e_ls (ls2 := [(0, _), (1, _), (2, _), (3, _), (4, _)]) rfl ?_
  exact l_chain hC hq h (M 929 709).toNat 0 (by omega) M _ _ rfl rfl Scr.rf (fun k a => by omega)

theorem c_chain {q : Int} {M : jM} {Q : Int → jM → Prop} (hC : CR M) (hq : -2147483648 ≤ q ∧ q ≤ 2147483647) (h2 : q < 0 ∨ M 929 643 ≤ q → Q (-2) M) (h0 : 0 ≤ q ∧ q < M 929 643 → ∀ Y : jM, Scr M Y → Q (chM (M 929) q (M 929 709).toNat) Y) : jCt yX11_chain cX11_chain 2 (some .int) 3 [jR 0, jI q] M Q := by
  refine jCt_of mt_yX11_chain (Nat.le_of_ble_eq_true rfl) (fun X => ?_)
  have hn := hC.cnt
  refine e_aload_n (i := 0) 1 dX11_chain_0 rfl rfl rfl ?_
  refine e_getr (j := 0) 4 fl_11_10 dX11_chain_1 at_0 rfl rfl tp_0_0 rfl ?_
  refine e_iload_n (i := 1) 5 dX11_chain_4 rfl rfl rfl ?_
  refine e_callV 8 mt_yX8_hasPerson mv_yX8_hasPerson wd_761 (by decide) dX11_chain_5 at_1 jc_8 rfl rfl rfl (Nat.le_of_ble_eq_true rfl) (jroom (by decide)) rfl (c_hasPerson (by omega) (fun w5 => ?_) (fun w5 => ?_))
  · dsimp only [jpush]
    refine e_if_eq 11 26 dX11_chain_8 (by decide) (by decide) rfl (fun h => absurd h (by decide)) (fun _ => ?_)
    refine e_aload_n (i := 0) 12 dX11_chain_11 rfl rfl rfl ?_
    refine e_getr (j := 5) 15 fl_11_41 dX11_chain_12 at_0 rfl rfl tp_0_5 rfl ?_
    refine e_aload_n (i := 0) 16 dX11_chain_15 rfl rfl rfl ?_
    refine e_getr (j := 0) 19 fl_11_10 dX11_chain_16 at_0 rfl rfl tp_0_0 rfl ?_
    refine e_iload_n (i := 1) 20 dX11_chain_19 rfl rfl rfl ?_
    refine e_callV 23 mt_yX4_longestChain mv_yX4_longestChain wd_1086 (by decide) dX11_chain_20 at_903 jc_4 rfl rfl rfl (Nat.le_of_ble_eq_true rfl) (jroom (by decide)) rfl (c_longest hC (by omega) (fun Y20 hS20 => ?_))
    dsimp only [jpush]
    refine e_goto 28 dX11_chain_23 (by decide) ?_
    refine e_iret dX11_chain_28 ?_
    exact h0 (by omega) _ hS20
  · dsimp only [jpush]
    refine e_if_eq 11 26 dX11_chain_8 (by decide) (by decide) rfl (fun _ => ?_) (fun h => absurd h (by decide))
    refine e_bipush 28 dX11_chain_26 (by decide) rfl ?_
    refine e_iret dX11_chain_28 ?_
    exact h2 (by omega)

theorem lm_chainIn {X : jX} {q mo : Int} {p : Nat} {f : Int → Int} {M : jM} {Q : Int → jM → Prop} (hC : CR M) (hp : (p : Int) < M 929 709) (hfr : ∀ j, 0 ≤ f j ∧ f j ≤ 60) (hfp : ∀ k : Nat, k < p → (0 < f k ↔ M 929 (770 + (k : Int)) = q)) (hk : ∀ Y : jM, Scr M Y → (∀ k : Nat, k < p → Y 941 k = f k) → Y 941 p = 1 + ahead (M 929) q p f p → jE X yX12_chain cX12_chain 6 (some .int) 2 Q Y 172 [(0, jR 928), (1, jI q), (2, jI mo), (3, jI (p : Int))] []) : ∀ n i : Nat, i + n = p → ∀ (Y : jM) (ii : Int), ii = i → Scr M Y → (∀ k : Nat, k < p → Y 941 k = f k) → Y 941 p = 1 + ahead (M 929) q p f i → jE X yX12_chain cX12_chain 6 (some .int) 2 Q Y 66 [(0, jR 928), (1, jI q), (2, jI mo), (3, jI (p : Int)), (4, jI ii)] [] := by
  intro n
  induction n with
  | zero =>
    intro i hi Y ii hii hS hF hL
    have e9 := hS.row
    have hCY := hS.cr hC
    have hg := hCY.rng
    have e9a : Y 929 709 = M 929 709 := by rw [e9]
    have e : i = p := by omega
    rw [e] at hL
    refine e_iload 68 dX12_chain_66 rfl rfl ?_
    refine e_iload_n (i := 3) 69 dX12_chain_68 rfl rfl rfl ?_
    refine e_icmp_ge 72 172 dX12_chain_69 (by omega) (by omega) (by decide) rfl (fun b69 => ?_) (fun b69 => ?_)
    · skip
      refine e_ls (ls2 := [(0, _), (1, _), (2, _), (3, _)]) rfl ?_
      exact hk Y hS hF hL
    · omega
  | succ n ih =>
    intro i hi Y ii hii hS hF hL
    have e9 := hS.row
    have hCY := hS.cr hC
    have hg := hCY.rng
    have e9a : Y 929 709 = M 929 709 := by rw [e9]
    subst hii
    have hfi := hF i (by omega)
    have hfi2 := hfr i
    have hfi3 := hfp i (by omega)
    have har := ahead_rng (a := M 929) (q := q) (p := p) (f := f) (B := 60) (by omega) hfr i
    have b1 : Y 929 (1010 + (i : Int)) = M 929 (1010 + (i : Int)) := by rw [e9]
    have b2 : Y 929 (1190 + (i : Int)) = M 929 (1190 + (i : Int)) := by rw [e9]
    have b3 : Y 929 (1130 + (p : Int)) = M 929 (1130 + (p : Int)) := by rw [e9]
    refine e_iload 68 dX12_chain_66 rfl rfl ?_
    refine e_iload_n (i := 3) 69 dX12_chain_68 rfl rfl rfl ?_
    refine e_icmp_ge 72 172 dX12_chain_69 (by omega) (by omega) (by decide) rfl (fun b69 => ?_) (fun b69 => ?_)
    · omega
    · skip
      refine e_aload_n (i := 0) 73 dX12_chain_72 rfl rfl rfl ?_
      refine e_getr (j := 26) 76 fl_12_54 dX12_chain_73 at_928 rfl rfl tp_928_26 rfl ?_
      refine e_iload 78 dX12_chain_76 rfl rfl ?_
      refine e_iald 79 dX12_chain_78 ar_941 (by omega) (by omega) rfl (fun r78 => ?_)
      refine e_if_le 82 125 dX12_chain_79 (by omega) (by decide) rfl (fun b79 => ?_) (fun b79 => ?_)
      · skip
        refine e_iconst 126 dX12_chain_125 rfl ?_
        refine e_istore (lsn := [(5, _), (0, _), (1, _), (2, _), (3, _), (4, _)]) 128 dX12_chain_126 (by decide) rfl rfl ?_
        refine e_iload 130 dX12_chain_128 rfl rfl ?_
        refine e_if_eq 133 166 dX12_chain_130 (by decide) (by decide) rfl (fun _ => ?_) (fun h => absurd h (by decide))
        refine e_iinc (lsn := [(4, _), (5, _), (0, _), (1, _), (2, _), (3, _)]) 169 dX12_chain_166 rfl (by decide) rfl rfl ?_
        refine e_goto 66 dX12_chain_169 (by decide) ?_
        refine e_ls (ls2 := [(0, _), (1, _), (2, _), (3, _), (4, _)]) rfl ?_
        first
          | (exfalso; omega)
          | (refine ih (i + 1) (by omega) Y _ (by omega) hS hF ?_
             rw [ahead, if_neg (by omega)]
             exact hL)
      · skip
        refine e_aload_n (i := 0) 83 dX12_chain_82 rfl rfl rfl ?_
        refine e_getr (j := 1) 86 fl_12_13 dX12_chain_83 at_928 rfl rfl tp_928_1 rfl ?_
        refine e_sipush 89 dX12_chain_86 (by decide) rfl ?_
        refine e_iload 91 dX12_chain_89 rfl rfl ?_
        refine e_iadd 92 dX12_chain_91 rfl ?_
        refine e_iald 93 dX12_chain_92 ar_929 (by omega) (by omega) rfl (fun r92 => ?_)
        refine e_iconst 94 dX12_chain_93 rfl ?_
        refine e_icmp_ne 97 125 dX12_chain_94 (by omega) (by decide) (by decide) rfl (fun b94 => ?_) (fun b94 => ?_)
        · skip
          refine e_iconst 126 dX12_chain_125 rfl ?_
          refine e_istore (lsn := [(5, _), (0, _), (1, _), (2, _), (3, _), (4, _)]) 128 dX12_chain_126 (by decide) rfl rfl ?_
          refine e_iload 130 dX12_chain_128 rfl rfl ?_
          refine e_if_eq 133 166 dX12_chain_130 (by decide) (by decide) rfl (fun _ => ?_) (fun h => absurd h (by decide))
          refine e_iinc (lsn := [(4, _), (5, _), (0, _), (1, _), (2, _), (3, _)]) 169 dX12_chain_166 rfl (by decide) rfl rfl ?_
          refine e_goto 66 dX12_chain_169 (by decide) ?_
          refine e_ls (ls2 := [(0, _), (1, _), (2, _), (3, _), (4, _)]) rfl ?_
          first
            | (exfalso; omega)
            | (refine ih (i + 1) (by omega) Y _ (by omega) hS hF ?_
               rw [ahead, if_neg (by omega)]
               exact hL)
        · skip
          refine e_aload_n (i := 0) 98 dX12_chain_97 rfl rfl rfl ?_
          refine e_getr (j := 1) 101 fl_12_13 dX12_chain_98 at_928 rfl rfl tp_928_1 rfl ?_
          refine e_sipush 104 dX12_chain_101 (by decide) rfl ?_
          refine e_iload 106 dX12_chain_104 rfl rfl ?_
          refine e_iadd 107 dX12_chain_106 rfl ?_
          refine e_iald 108 dX12_chain_107 ar_929 (by omega) (by omega) rfl (fun r107 => ?_)
          refine e_aload_n (i := 0) 109 dX12_chain_108 rfl rfl rfl ?_
          refine e_getr (j := 1) 112 fl_12_13 dX12_chain_109 at_928 rfl rfl tp_928_1 rfl ?_
          refine e_sipush 115 dX12_chain_112 (by decide) rfl ?_
          refine e_iload_n (i := 3) 116 dX12_chain_115 rfl rfl rfl ?_
          refine e_iadd 117 dX12_chain_116 rfl ?_
          refine e_iald 118 dX12_chain_117 ar_929 (by omega) (by omega) rfl (fun r117 => ?_)
          refine e_icmp_ne 121 125 dX12_chain_118 (by omega) (by omega) (by decide) rfl (fun b118 => ?_) (fun b118 => ?_)
          · skip
            refine e_iconst 126 dX12_chain_125 rfl ?_
            refine e_istore (lsn := [(5, _), (0, _), (1, _), (2, _), (3, _), (4, _)]) 128 dX12_chain_126 (by decide) rfl rfl ?_
            refine e_iload 130 dX12_chain_128 rfl rfl ?_
            refine e_if_eq 133 166 dX12_chain_130 (by decide) (by decide) rfl (fun _ => ?_) (fun h => absurd h (by decide))
            refine e_iinc (lsn := [(4, _), (5, _), (0, _), (1, _), (2, _), (3, _)]) 169 dX12_chain_166 rfl (by decide) rfl rfl ?_
            refine e_goto 66 dX12_chain_169 (by decide) ?_
            refine e_ls (ls2 := [(0, _), (1, _), (2, _), (3, _), (4, _)]) rfl ?_
            first
              | (exfalso; omega)
              | (refine ih (i + 1) (by omega) Y _ (by omega) hS hF ?_
                 rw [ahead, if_neg (by omega)]
                 exact hL)
          · skip
            refine e_iconst 122 dX12_chain_121 rfl ?_
            refine e_goto 126 dX12_chain_122 (by decide) ?_
            refine e_istore (lsn := [(5, _), (0, _), (1, _), (2, _), (3, _), (4, _)]) 128 dX12_chain_126 (by decide) rfl rfl ?_
            refine e_iload 130 dX12_chain_128 rfl rfl ?_
            refine e_if_eq 133 166 dX12_chain_130 (by decide) (by decide) rfl (fun h => absurd h (by decide)) (fun _ => ?_)
            refine e_aload_n (i := 0) 134 dX12_chain_133 rfl rfl rfl ?_
            refine e_getr (j := 26) 137 fl_12_54 dX12_chain_134 at_928 rfl rfl tp_928_26 rfl ?_
            refine e_iload 139 dX12_chain_137 rfl rfl ?_
            refine e_iald 140 dX12_chain_139 ar_941 (by omega) (by omega) rfl (fun r139 => ?_)
            refine e_iconst 141 dX12_chain_140 rfl ?_
            refine e_iadd 142 dX12_chain_141 rfl ?_
            refine e_aload_n (i := 0) 143 dX12_chain_142 rfl rfl rfl ?_
            refine e_getr (j := 26) 146 fl_12_54 dX12_chain_143 at_928 rfl rfl tp_928_26 rfl ?_
            refine e_iload_n (i := 3) 147 dX12_chain_146 rfl rfl rfl ?_
            refine e_iald 148 dX12_chain_147 ar_941 (by omega) (by omega) rfl (fun r147 => ?_)
            refine e_icmp_le 151 166 dX12_chain_148 (by omega) (by omega) (by decide) rfl (fun b148 => ?_) (fun b148 => ?_)
            · skip
              refine e_iinc (lsn := [(4, _), (5, _), (0, _), (1, _), (2, _), (3, _)]) 169 dX12_chain_166 rfl (by decide) rfl rfl ?_
              refine e_goto 66 dX12_chain_169 (by decide) ?_
              refine e_ls (ls2 := [(0, _), (1, _), (2, _), (3, _), (4, _)]) rfl ?_
              refine ih (i + 1) (by omega) Y _ (by omega) hS hF ?_
              rw [ahead, if_pos (by omega), hL]
              omega
            · skip
              refine e_aload_n (i := 0) 152 dX12_chain_151 rfl rfl rfl ?_
              refine e_getr (j := 26) 155 fl_12_54 dX12_chain_152 at_928 rfl rfl tp_928_26 rfl ?_
              refine e_iload_n (i := 3) 156 dX12_chain_155 rfl rfl rfl ?_
              refine e_aload_n (i := 0) 157 dX12_chain_156 rfl rfl rfl ?_
              refine e_getr (j := 26) 160 fl_12_54 dX12_chain_157 at_928 rfl rfl tp_928_26 rfl ?_
              refine e_iload 162 dX12_chain_160 rfl rfl ?_
              refine e_iald 163 dX12_chain_162 ar_941 (by omega) (by omega) rfl (fun r162 => ?_)
              refine e_iconst 164 dX12_chain_163 rfl ?_
              refine e_iadd 165 dX12_chain_164 rfl ?_
              refine e_iast 166 dX12_chain_165 ar_941 (by omega) (by omega) (by omega) rfl ?_
              refine e_iinc (lsn := [(4, _), (5, _), (0, _), (1, _), (2, _), (3, _)]) 169 dX12_chain_166 rfl (by decide) rfl rfl ?_
              refine e_goto 66 dX12_chain_169 (by decide) ?_
              refine e_ls (ls2 := [(0, _), (1, _), (2, _), (3, _), (4, _)]) rfl ?_
              refine ih (i + 1) (by omega) _ _ (by omega) (hS.set (by omega)) (fun k a => by rw [jset_j (by omega)]; exact hF k a) ?_
              rw [jset_same, ahead, if_pos (by omega), hfi]
              omega

theorem lm_chain {X : jX} {q : Int} {M : jM} {Q : Int → jM → Prop} (hC : CR M) (hq : -2147483648 ≤ q ∧ q ≤ 2147483647) (h : ∀ Y : jM, Scr M Y → Q (chM (M 929) q (M 929 709).toNat) Y) : ∀ n i : Nat, (i : Int) + n = M 929 709 → ∀ (Y : jM) (s ii : Int), ii = i → s = chM (M 929) q i → Scr M Y → (∀ k : Nat, k < i → Y 941 k = chA (M 929) q i k) → jE X yX12_chain cX12_chain 6 (some .int) 2 Q Y 20 [(0, jR 928), (1, jI q), (2, jI s), (3, jI ii)] [] := by
  intro n
  have hgM := hC.rng
  induction n with
  | zero =>
    intro i hi Y s ii hii hs hS hF
    have e9 := hS.row
    have hCY := hS.cr hC
    have hg := hCY.rng
    have e9a : Y 929 709 = M 929 709 := by rw [e9]
    have e : (M 929 709).toNat = i := by omega
    rw [e, ← hs] at h
    refine e_iload_n (i := 3) 21 dX12_chain_20 rfl rfl rfl ?_
    refine e_aload_n (i := 0) 22 dX12_chain_21 rfl rfl rfl ?_
    refine e_getr (j := 1) 25 fl_12_13 dX12_chain_22 at_928 rfl rfl tp_928_1 rfl ?_
    refine e_sipush 28 dX12_chain_25 (by decide) rfl ?_
    refine e_iald 29 dX12_chain_28 ar_929 (by decide) (by decide) rfl (fun r28 => ?_)
    refine e_icmp_ge 32 199 dX12_chain_29 (by omega) (by omega) (by decide) rfl (fun b29 => ?_) (fun b29 => ?_)
    · skip
      refine e_iload_n (i := 2) 200 dX12_chain_199 rfl rfl rfl ?_
      refine e_iret dX12_chain_200 ?_
      exact h Y hS
    · omega
  | succ n ih =>
    intro i hi Y s ii hii hs hS hF
    have e9 := hS.row
    have hCY := hS.cr hC
    have hg := hCY.rng
    have e9a : Y 929 709 = M 929 709 := by rw [e9]
    subst hii
    have e9b : Y 929 (770 + (i : Int)) = M 929 (770 + (i : Int)) := by rw [e9]
    have hsr := chM_rng (a := M 929) (q := q) i
    have hqp := (hCY.plr (p := (i : Int)) (by omega) (by omega)).2.1
    refine e_iload_n (i := 3) 21 dX12_chain_20 rfl rfl rfl ?_
    refine e_aload_n (i := 0) 22 dX12_chain_21 rfl rfl rfl ?_
    refine e_getr (j := 1) 25 fl_12_13 dX12_chain_22 at_928 rfl rfl tp_928_1 rfl ?_
    refine e_sipush 28 dX12_chain_25 (by decide) rfl ?_
    refine e_iald 29 dX12_chain_28 ar_929 (by decide) (by decide) rfl (fun r28 => ?_)
    refine e_icmp_ge 32 199 dX12_chain_29 (by omega) (by omega) (by decide) rfl (fun b29 => ?_) (fun b29 => ?_)
    · omega
    · skip
      refine e_aload_n (i := 0) 33 dX12_chain_32 rfl rfl rfl ?_
      refine e_getr (j := 26) 36 fl_12_54 dX12_chain_33 at_928 rfl rfl tp_928_26 rfl ?_
      refine e_iload_n (i := 3) 37 dX12_chain_36 rfl rfl rfl ?_
      refine e_iconst 38 dX12_chain_37 rfl ?_
      refine e_iast 39 dX12_chain_38 ar_941 (by omega) (by omega) (by decide) rfl ?_
      refine e_aload_n (i := 0) 40 dX12_chain_39 rfl rfl rfl ?_
      refine e_getr (j := 1) 43 fl_12_13 dX12_chain_40 at_928 rfl rfl tp_928_1 rfl ?_
      refine e_sipush 46 dX12_chain_43 (by decide) rfl ?_
      refine e_iload_n (i := 3) 47 dX12_chain_46 rfl rfl rfl ?_
      refine e_iadd 48 dX12_chain_47 rfl ?_
      refine e_iald 49 dX12_chain_48 ar_929 (by omega) (by omega) rfl (fun r48 => ?_)
      simp (disch := omega) only [jset_k, jset_j, jset_same, true_and, and_true] at r48 ⊢
      refine e_iload_n (i := 1) 50 dX12_chain_49 rfl rfl rfl ?_
      refine e_icmp_eq 53 56 dX12_chain_50 (by omega) (by omega) (by decide) rfl (fun b50 => ?_) (fun b50 => ?_)
      · skip
        refine e_aload_n (i := 0) 57 dX12_chain_56 rfl rfl rfl ?_
        refine e_getr (j := 26) 60 fl_12_54 dX12_chain_57 at_928 rfl rfl tp_928_26 rfl ?_
        refine e_iload_n (i := 3) 61 dX12_chain_60 rfl rfl rfl ?_
        refine e_iconst 62 dX12_chain_61 rfl ?_
        refine e_iast 63 dX12_chain_62 ar_941 (by omega) (by omega) (by decide) rfl ?_
        refine e_iconst 64 dX12_chain_63 rfl ?_
        refine e_istore (lsn := [(4, _), (0, _), (1, _), (2, _), (3, _)]) 66 dX12_chain_64 (by decide) rfl rfl ?_
        refine e_ls (ls2 := [(0, _), (1, _), (2, _), (3, _), (4, _)]) rfl ?_
        refine lm_chainIn (mo := s) (p := i) (f := chA (M 929) q i) hC (by omega) (fun j => by have := chA_rng (a := M 929) (q := q) i j; omega) (fun k a => chA_pos i k a) (fun Y2 hS2 hF2 hL2 => ?_) i 0 (by omega) _ _ rfl ((hS.set (by omega)).set (by omega)) (fun k a => by rw [jset_j (by omega), jset_j (by omega)]; exact hF k a) (by rw [jset_same]; rfl)
        have har := ahead_rng (a := M 929) (q := q) (p := i) (f := chA (M 929) q i) (B := 60) (by omega) (fun j => by have := chA_rng (a := M 929) (q := q) i j; omega) i
        have hcA : chA (M 929) q (i + 1) i = 1 + ahead (M 929) q i (chA (M 929) q i) i := by rw [chA, if_pos rfl, if_pos (by omega)]
        refine e_aload_n (i := 0) 173 dX12_chain_172 rfl rfl rfl ?_
        refine e_getr (j := 26) 176 fl_12_54 dX12_chain_173 at_928 rfl rfl tp_928_26 rfl ?_
        refine e_iload_n (i := 3) 177 dX12_chain_176 rfl rfl rfl ?_
        refine e_iald 178 dX12_chain_177 ar_941 (by omega) (by omega) rfl (fun r177 => ?_)
        refine e_iload_n (i := 2) 179 dX12_chain_178 rfl rfl rfl ?_
        refine e_icmp_le 182 191 dX12_chain_179 (by omega) (by omega) (by decide) rfl (fun b179 => ?_) (fun b179 => ?_)
        · skip
          refine e_iload_n (i := 2) 192 dX12_chain_191 rfl rfl rfl ?_
          refine e_istore_n (i := 2) (lsn := [(2, _), (0, _), (1, _), (3, _)]) 193 dX12_chain_192 rfl (by decide) rfl rfl ?_
          refine e_iinc (lsn := [(3, _), (2, _), (0, _), (1, _)]) 196 dX12_chain_193 rfl (by decide) rfl rfl ?_
          refine e_goto 20 dX12_chain_196 (by decide) ?_
          refine e_ls (ls2 := [(0, _), (1, _), (2, _), (3, _)]) rfl ?_
          refine ih (i + 1) (by omega) Y2 _ _ (by omega) ?_ hS2 ?_
          · rw [chM, if_pos (by omega), hcA]
            omega
          · intro k hk
            by_cases e : k = i
            · subst e
              rw [hcA]
              exact hL2
            · rw [chA, if_neg (by omega)]
              exact hF2 k (by omega)
        · skip
          refine e_aload_n (i := 0) 183 dX12_chain_182 rfl rfl rfl ?_
          refine e_getr (j := 26) 186 fl_12_54 dX12_chain_183 at_928 rfl rfl tp_928_26 rfl ?_
          refine e_iload_n (i := 3) 187 dX12_chain_186 rfl rfl rfl ?_
          refine e_iald 188 dX12_chain_187 ar_941 (by omega) (by omega) rfl (fun r187 => ?_)
          refine e_goto 192 dX12_chain_188 (by decide) ?_
          refine e_istore_n (i := 2) (lsn := [(2, _), (0, _), (1, _), (3, _)]) 193 dX12_chain_192 rfl (by decide) rfl rfl ?_
          refine e_iinc (lsn := [(3, _), (2, _), (0, _), (1, _)]) 196 dX12_chain_193 rfl (by decide) rfl rfl ?_
          refine e_goto 20 dX12_chain_196 (by decide) ?_
          refine e_ls (ls2 := [(0, _), (1, _), (2, _), (3, _)]) rfl ?_
          refine ih (i + 1) (by omega) Y2 _ _ (by omega) ?_ hS2 ?_
          · rw [chM, if_pos (by omega), hcA]
            omega
          · intro k hk
            by_cases e : k = i
            · subst e
              rw [hcA]
              exact hL2
            · rw [chA, if_neg (by omega)]
              exact hF2 k (by omega)
      · skip
        refine e_goto 193 dX12_chain_53 (by decide) ?_
        refine e_iinc (lsn := [(3, _), (0, _), (1, _), (2, _)]) 196 dX12_chain_193 rfl (by decide) rfl rfl ?_
        refine e_goto 20 dX12_chain_196 (by decide) ?_
        refine e_ls (ls2 := [(0, _), (1, _), (2, _), (3, _)]) rfl ?_
        refine ih (i + 1) (by omega) _ _ _ (by omega) ?_ (hS.set (by omega)) ?_
        · rw [chM, if_neg (by omega)]
          exact hs
        · intro k hk
          rw [chA]
          by_cases e : k = i
          · subst e
            rw [jset_same, if_pos rfl, if_neg (by omega)]
          · rw [jset_j (by omega), if_neg (by omega)]
            exact hF k (by omega)

theorem m_chain {q : Int} {M : jM} {Q : Int → jM → Prop} (hC : CR M) (ht : M 928 0 = 0) (hq : -2147483648 ≤ q ∧ q ≤ 2147483647) (h2 : q < 0 ∨ M 929 643 ≤ q → Q (-2) M) (h0 : 0 ≤ q ∧ q < M 929 643 → ∀ Y : jM, Scr M Y → Q (chM (M 929) q (M 929 709).toNat) Y) : jCt yX12_chain cX12_chain 6 (some .int) 2 [jR 928, jI q] M Q := by
  refine jCt_of mt_yX12_chain (Nat.le_of_ble_eq_true rfl) (fun X => ?_)
  have hg := hC.rng
  refine e_aload_n (i := 0) 1 dX12_chain_0 rfl rfl rfl ?_
  refine e_iconst 2 dX12_chain_1 rfl ?_
  refine e_put0 (j := 0) 5 fl_12_1 dX12_chain_2 at_928 rfl rfl rfl (by decide) ht rfl ?_
  refine e_aload_n (i := 0) 6 dX12_chain_5 rfl rfl rfl ?_
  refine e_iload_n (i := 1) 7 dX12_chain_6 rfl rfl rfl ?_
  refine e_callV 10 mt_yX12_isPerson mv_yX12_isPerson wd_1506 (by decide) dX12_chain_7 at_928 jc_12 rfl rfl rfl (Nat.le_of_ble_eq_true rfl) (jroom (by decide)) rfl (m_isPerson (by omega) (fun w7 => ?_) (fun w7 => ?_))
  · dsimp only [jpush]
    refine e_if_ne 13 16 dX12_chain_10 (by decide) (by decide) rfl (fun _ => ?_) (fun h => absurd h (by decide))
    refine e_iconst 17 dX12_chain_16 rfl ?_
    refine e_istore_n (i := 2) (lsn := [(2, _), (0, _), (1, _)]) 18 dX12_chain_17 rfl (by decide) rfl rfl ?_
    refine e_iconst 19 dX12_chain_18 rfl ?_
    refine e_istore_n (i := 3) (lsn := [(3, _), (2, _), (0, _), (1, _)]) 20 dX12_chain_19 rfl (by decide) rfl rfl ?_
    refine e_ls (ls2 := [(0, _), (1, _), (2, _), (3, _)]) rfl ?_
    exact lm_chain hC hq (h0 (by omega)) (M 929 709).toNat 0 (by omega) M _ _ rfl rfl Scr.rf (fun k a => by omega)
  · dsimp only [jpush]
    refine e_if_ne 13 16 dX12_chain_10 (by decide) (by decide) rfl (fun h => absurd h (by decide)) (fun _ => ?_)
    refine e_bipush 15 dX12_chain_13 (by decide) rfl ?_
    refine e_iret dX12_chain_15 ?_
    exact h2 (by omega)

theorem p_chain {M : jM} (hI : Inv M) {q : Int} (hq : -2147483648 ≤ q ∧ q ≤ 2147483647) : jCt yX11_chain cX11_chain 2 (some .int) 3 [jR 0, jI q] M (fun z M1 => jCt yX12_chain cX12_chain 6 (some .int) 2 [jR 928, jI q] M1 (fun z2 M2 => z = z2 ∧ Inv M2)) := by
  have hC := hI.cr
  refine c_chain hC hq (fun w => ?_) (fun w Y hY => ?_)
  · exact m_chain hC hI.1 hq (fun _ => ⟨rfl, hI⟩) (fun w2 => by omega)
  · have hIY := hI.scr hY
    have e9 := hY.row
    have e6 : Y 929 643 = M 929 643 := by rw [e9]
    refine m_chain hIY.cr hIY.1 hq (fun w2 => by omega) (fun _ Y2 hY2 => ?_)
    rw [e9]
    exact ⟨rfl, hIY.scr hY2⟩

