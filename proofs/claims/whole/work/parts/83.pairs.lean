/-! TRIPS *** the reference *** -/
theorem sel_mem {q m : Nat} {g : Nat → Int} (h : ∀ i, q.testBit i = true → m.testBit i = true) {x : Int} : ∀ n i : Nat, x ∈ selF q g n i → x ∈ selF m g n i
  | 0, _, a => a
  | n + 1, i, a => by
    rw [selF] at a ⊢
    by_cases e : q.testBit i = true
    · rw [if_pos e] at a
      rw [if_pos (h i e)]
      rcases List.mem_cons.mp a with z | z
      · rw [z]
        exact List.mem_cons_self
      · exact List.mem_cons_of_mem _ (sel_mem h n (i + 1) z)
    · rw [if_neg e] at a
      by_cases e2 : m.testBit i = true
      · rw [if_pos e2]
        exact List.mem_cons_of_mem _ (sel_mem h n (i + 1) a)
      · rw [if_neg e2]
        exact sel_mem h n (i + 1) a
theorem lm_tripOf {X : jX} {M Y : jM} {Q : Int → jM → Prop} (hC : CR M) (hS : Scr M Y) {fr arms mm : Int} {S : Nat} (hmm : mm = S) (hS8 : S < 256) (har : 1 ≤ arms ∧ arms ≤ 99) (hok : ∀ p ∈ selF S (fun j => fr + (j : Int)) 8 0, (0 ≤ p ∧ p < M 929 709) ∧ M 929 (950 + p) ≠ -1) (h1 : ∀ t, tripT (M 929) arms (selF S (fun j => fr + (j : Int)) 8 0) t → 0 ≤ t ∧ t ≤ 198 → Q t Y) (h0 : (∀ t, ¬ tripT (M 929) arms (selF S (fun j => fr + (j : Int)) 8 0) t) → Q (-1) Y) : ∀ n i : Nat, i + n = 8 → ∀ s mo ii : Int, ii = i → (0 ≤ s ∧ s ≤ 9 * i) → (0 ≤ mo ∧ mo ≤ 99) → sumL (sizeOfP (M 929)) (selF S (fun j => fr + (j : Int)) n i) s = sumL (sizeOfP (M 929)) (selF S (fun j => fr + (j : Int)) 8 0) 0 → maxL (stepsOf (M 929)) (selF S (fun j => fr + (j : Int)) n i) mo = maxL (stepsOf (M 929)) (selF S (fun j => fr + (j : Int)) 8 0) 0 → (∀ p ∈ selF S (fun j => fr + (j : Int)) n i, (0 ≤ p ∧ p < M 929 709) ∧ M 929 (950 + p) ≠ -1) → jE X yX12_tripOf cX12_tripOf 8 (some .int) 2 Q Y 9 [(0, jR 928), (1, jI fr), (2, jI mm), (3, jI arms), (4, jI s), (5, jI mo), (6, jI ii)] [] := by
  intro n
  induction n with
  | zero =>
    intro i hi s mo ii hii hs0 hm0 hs hm hv
    have e8 : i = 8 := by omega
    subst e8
    rw [selF, sumL] at hs
    rw [selF, maxL] at hm
    refine e_iload 11 dX12_tripOf_9 rfl rfl ?_
    refine e_bipush 13 dX12_tripOf_11 (by decide) rfl ?_
    refine e_icmp_ge 16 87 dX12_tripOf_13 (by omega) (by decide) (by decide) rfl (fun b13 => ?_) (fun b13 => ?_)
    · skip
      refine e_iload 89 dX12_tripOf_87 rfl rfl ?_
      refine e_iload_n (i := 3) 90 dX12_tripOf_89 rfl rfl rfl ?_
      refine e_icmp_le 93 97 dX12_tripOf_90 (by omega) (by omega) (by decide) rfl (fun b90 => ?_) (fun b90 => ?_)
      · skip
        refine e_iconst 98 dX12_tripOf_97 rfl ?_
        refine e_iload 100 dX12_tripOf_98 rfl rfl ?_
        refine e_imul 101 dX12_tripOf_100 rfl ?_
        refine e_iret dX12_tripOf_101 ?_
        first
          | exact h0 (fun t ht => by have := ht.1; omega)
          | exact h1 _ ⟨by omega, by omega⟩ (by omega)
      · skip
        refine e_iconst 94 dX12_tripOf_93 rfl ?_
        refine e_goto 101 dX12_tripOf_94 (by decide) ?_
        refine e_iret dX12_tripOf_101 ?_
        first
          | exact h0 (fun t ht => by have := ht.1; omega)
          | exact h1 _ ⟨by omega, by omega⟩ (by omega)
    · omega
  | succ n ih =>
    intro i hi s mo ii hii hs0 hm0 hs hm hv
    have hCY := hS.cr hC
    have e9 := hS.row
    have hn := hCY.cnt
    have hg := hCY.rng
    have e71 : Y 929 3895 = M 929 3895 := by rw [e9]
    have e72 : Y 929 709 = M 929 709 := by rw [e9]
    have hbit : jand (jshr mm ii) 1 = if S.testBit i then 1 else 0 := by
      have e := jbit ⟨S, hS8⟩ ⟨i, by omega⟩
      rw [hmm, hii]
      exact e
    by_cases hb : S.testBit i = true
    case neg =>
      rw [if_neg hb] at hbit
      rw [selF, if_neg hb] at hs
      rw [selF, if_neg hb] at hm
      rw [selF, if_neg hb] at hv
      refine e_iload 11 dX12_tripOf_9 rfl rfl ?_
      refine e_bipush 13 dX12_tripOf_11 (by decide) rfl ?_
      refine e_icmp_ge 16 87 dX12_tripOf_13 (by omega) (by decide) (by decide) rfl (fun b13 => ?_) (fun b13 => ?_)
      · omega
      · skip
        refine e_iload_n (i := 2) 17 dX12_tripOf_16 rfl rfl rfl ?_
        refine e_iload 19 dX12_tripOf_17 rfl rfl ?_
        refine e_ishr 20 dX12_tripOf_19 rfl ?_
        refine e_iconst 21 dX12_tripOf_20 rfl ?_
        refine e_iand 22 dX12_tripOf_21 rfl ?_
        rw [hbit]
        refine e_if_ne 25 28 dX12_tripOf_22 (by omega) (by decide) rfl (fun b22 => ?_) (fun b22 => ?_)
        · omega
        · skip
          refine e_goto 81 dX12_tripOf_25 (by decide) ?_
          refine e_iinc (lsn := [(6, _), (0, _), (1, _), (2, _), (3, _), (4, _), (5, _)]) 84 dX12_tripOf_81 rfl (by decide) rfl rfl ?_
          refine e_goto 9 dX12_tripOf_84 (by decide) ?_
          refine e_ls (ls2 := [(0, _), (1, _), (2, _), (3, _), (4, _), (5, _), (6, _)]) rfl ?_
          exact ih (i + 1) (by omega) s mo _ (by omega) (by omega) hm0 hs hm hv
    case pos =>
      rw [if_pos hb] at hbit
      rw [selF, if_pos hb, sumL] at hs
      rw [selF, if_pos hb, maxL] at hm
      rw [selF, if_pos hb] at hv
      have hvp := hv _ List.mem_cons_self
      have hvt := fun p hp => hv p (List.mem_cons_of_mem _ hp)
      rw [← hii] at hvp hs hm
      have hpr := hC.plr (p := fr + ii) (by omega) (by omega)
      have hk := hC.kind hpr.1.1 hpr.1.2
      have hr := hC.rk (r := M 929 (950 + (fr + ii))) (by omega) (by omega)
      rw [← e9] at hvp hpr hk hr
      have es : sizeOfP (M 929) (fr + ii) = Y 929 (583 + Y 929 (710 + (fr + ii))) := by rw [← e9]; rfl
      have et : stepsOf (M 929) (fr + ii) = Y 929 (1772 + Y 929 (950 + (fr + ii))) := by rw [← e9]; rfl
      rw [es] at hs
      rw [et] at hm
      refine e_iload 11 dX12_tripOf_9 rfl rfl ?_
      refine e_bipush 13 dX12_tripOf_11 (by decide) rfl ?_
      refine e_icmp_ge 16 87 dX12_tripOf_13 (by omega) (by decide) (by decide) rfl (fun b13 => ?_) (fun b13 => ?_)
      · omega
      · skip
        refine e_iload_n (i := 2) 17 dX12_tripOf_16 rfl rfl rfl ?_
        refine e_iload 19 dX12_tripOf_17 rfl rfl ?_
        refine e_ishr 20 dX12_tripOf_19 rfl ?_
        refine e_iconst 21 dX12_tripOf_20 rfl ?_
        refine e_iand 22 dX12_tripOf_21 rfl ?_
        rw [hbit]
        refine e_if_ne 25 28 dX12_tripOf_22 (by omega) (by decide) rfl (fun b22 => ?_) (fun b22 => ?_)
        · skip
          refine e_iload 30 dX12_tripOf_28 rfl rfl ?_
          refine e_aload_n (i := 0) 31 dX12_tripOf_30 rfl rfl rfl ?_
          refine e_iload_n (i := 1) 32 dX12_tripOf_31 rfl rfl rfl ?_
          refine e_iload 34 dX12_tripOf_32 rfl rfl ?_
          refine e_iadd 35 dX12_tripOf_34 rfl ?_
          refine e_callV 38 mt_yX12_sizeOf mv_yX12_sizeOf wd_1649 (by decide) dX12_tripOf_35 at_928 jc_12 rfl rfl rfl (Nat.le_of_ble_eq_true rfl) (jroom (by decide)) rfl (m_sizeOf (by omega) (by omega) ?_)
          dsimp only [jpush]
          refine e_iadd 39 dX12_tripOf_38 rfl ?_
          refine e_istore (lsn := [(4, _), (0, _), (1, _), (2, _), (3, _), (5, _), (6, _)]) 41 dX12_tripOf_39 (by decide) rfl rfl ?_
          refine e_aload_n (i := 0) 42 dX12_tripOf_41 rfl rfl rfl ?_
          refine e_getr (j := 1) 45 fl_12_13 dX12_tripOf_42 at_928 rfl rfl tp_928_1 rfl ?_
          refine e_sipush 48 dX12_tripOf_45 (by decide) rfl ?_
          refine e_aload_n (i := 0) 49 dX12_tripOf_48 rfl rfl rfl ?_
          refine e_getr (j := 1) 52 fl_12_13 dX12_tripOf_49 at_928 rfl rfl tp_928_1 rfl ?_
          refine e_sipush 55 dX12_tripOf_52 (by decide) rfl ?_
          refine e_iload_n (i := 1) 56 dX12_tripOf_55 rfl rfl rfl ?_
          refine e_iadd 57 dX12_tripOf_56 rfl ?_
          refine e_iload 59 dX12_tripOf_57 rfl rfl ?_
          refine e_iadd 60 dX12_tripOf_59 rfl ?_
          rw [show (950 : Int) + fr + ii = 950 + (fr + ii) by omega]
          refine e_iald 61 dX12_tripOf_60 ar_929 (by omega) (by omega) rfl (fun r60 => ?_)
          refine e_iadd 62 dX12_tripOf_61 rfl ?_
          refine e_iald 63 dX12_tripOf_62 ar_929 (by omega) (by omega) rfl (fun r62 => ?_)
          refine e_istore (lsn := [(7, _), (4, _), (0, _), (1, _), (2, _), (3, _), (5, _), (6, _)]) 65 dX12_tripOf_63 (by decide) rfl rfl ?_
          refine e_iload 67 dX12_tripOf_65 rfl rfl ?_
          refine e_iload 69 dX12_tripOf_67 rfl rfl ?_
          refine e_icmp_le 72 77 dX12_tripOf_69 (by omega) (by omega) (by decide) rfl (fun b69 => ?_) (fun b69 => ?_)
          · skip
            refine e_iload 79 dX12_tripOf_77 rfl rfl ?_
            refine e_istore (lsn := [(5, _), (7, _), (4, _), (0, _), (1, _), (2, _), (3, _), (6, _)]) 81 dX12_tripOf_79 (by decide) rfl rfl ?_
            refine e_iinc (lsn := [(6, _), (5, _), (7, _), (4, _), (0, _), (1, _), (2, _), (3, _)]) 84 dX12_tripOf_81 rfl (by decide) rfl rfl ?_
            refine e_goto 9 dX12_tripOf_84 (by decide) ?_
            refine e_ls (ls2 := [(0, _), (1, _), (2, _), (3, _), (4, _), (5, _), (6, _)]) rfl ?_
            refine ih (i + 1) (by omega) _ _ _ (by omega) (by omega) (by omega) hs ?_ hvt
            rw [← hm, if_neg (by omega)]
          · skip
            refine e_iload 74 dX12_tripOf_72 rfl rfl ?_
            refine e_goto 79 dX12_tripOf_74 (by decide) ?_
            refine e_istore (lsn := [(5, _), (7, _), (4, _), (0, _), (1, _), (2, _), (3, _), (6, _)]) 81 dX12_tripOf_79 (by decide) rfl rfl ?_
            refine e_iinc (lsn := [(6, _), (5, _), (7, _), (4, _), (0, _), (1, _), (2, _), (3, _)]) 84 dX12_tripOf_81 rfl (by decide) rfl rfl ?_
            refine e_goto 9 dX12_tripOf_84 (by decide) ?_
            refine e_ls (ls2 := [(0, _), (1, _), (2, _), (3, _), (4, _), (5, _), (6, _)]) rfl ?_
            refine ih (i + 1) (by omega) _ _ _ (by omega) (by omega) (by omega) hs ?_ hvt
            rw [← hm, if_pos (by omega)]
        · omega

theorem m_tripOf {M Y : jM} {Q : Int → jM → Prop} (hC : CR M) (hS : Scr M Y) {fr arms mm : Int} {S : Nat} (hmm : mm = S) (hS8 : S < 256) (har : 1 ≤ arms ∧ arms ≤ 99) (hok : ∀ p ∈ selF S (fun j => fr + (j : Int)) 8 0, (0 ≤ p ∧ p < M 929 709) ∧ M 929 (950 + p) ≠ -1) (h1 : ∀ t, tripT (M 929) arms (selF S (fun j => fr + (j : Int)) 8 0) t → 0 ≤ t ∧ t ≤ 198 → Q t Y) (h0 : (∀ t, ¬ tripT (M 929) arms (selF S (fun j => fr + (j : Int)) 8 0) t) → Q (-1) Y) : jCt yX12_tripOf cX12_tripOf 8 (some .int) 2 [jR 928, jI fr, jI mm, jI arms] Y Q := by
  refine jCt_of mt_yX12_tripOf (Nat.le_of_ble_eq_true rfl) (fun X => ?_)
  have hg := hC.rng
  refine e_iconst 1 dX12_tripOf_0 rfl ?_
  refine e_istore (lsn := [(4, _), (0, _), (1, _), (2, _), (3, _)]) 3 dX12_tripOf_1 (by decide) rfl rfl ?_
  refine e_iconst 4 dX12_tripOf_3 rfl ?_
  refine e_istore (lsn := [(5, _), (4, _), (0, _), (1, _), (2, _), (3, _)]) 6 dX12_tripOf_4 (by decide) rfl rfl ?_
  refine e_iconst 7 dX12_tripOf_6 rfl ?_
  refine e_istore (lsn := [(6, _), (5, _), (4, _), (0, _), (1, _), (2, _), (3, _)]) 9 dX12_tripOf_7 (by decide) rfl rfl ?_
  refine e_ls (ls2 := [(0, _), (1, _), (2, _), (3, _), (4, _), (5, _), (6, _)]) rfl ?_
  exact lm_tripOf hC hS hmm hS8 har hok h1 h0 8 0 rfl 0 0 0 rfl (by omega) (by omega) rfl rfl hok

