/-! BEST *** the reference: the weights *** -/
theorem lm_wt {X : jX} {Y : jM} {Q : Int → jM → Prop} {row nn i : Int} (hr : 0 ≤ row ∧ row < 4) (hn : 0 ≤ nn ∧ nn ≤ 7) (h8 : (∃ j : Int, 0 ≤ j ∧ j < nn ∧ ¬ (0 ≤ Y 948 (40 * row + j) ∧ Y 948 (40 * row + j) ≤ 99)) → Q (-3) Y) (hq : (∀ j : Int, 0 ≤ j → j < nn → 0 ≤ Y 948 (40 * row + j) ∧ Y 948 (40 * row + j) ≤ 99) → jE X yX12_best cX12_best 5 (some .int) 4 Q Y 112 [(0, jR 928), (1, jI row), (2, jI nn), (3, jI i), (4, jI nn)] []) : ∀ (k : Nat) (jj : Int), 0 ≤ jj → jj + k = nn → (∀ j : Int, 0 ≤ j → j < jj → 0 ≤ Y 948 (40 * row + j) ∧ Y 948 (40 * row + j) ≤ 99) → jE X yX12_best cX12_best 5 (some .int) 4 Q Y 75 [(0, jR 928), (1, jI row), (2, jI nn), (3, jI i), (4, jI jj)] [] := by
  intro k
  induction k with
  | zero =>
    intro jj a0 hj hU
    have e : jj = nn := by omega
    rw [e] at hU
    rw [e]
    refine e_iload 77 dX12_best_75 rfl rfl ?_
    refine e_iload_n (i := 2) 78 dX12_best_77 rfl rfl rfl ?_
    refine e_icmp_ge 81 112 dX12_best_78 (by omega) (by omega) (by decide) rfl (fun b78 => ?_) (fun b78 => ?_)
    · skip
      exact hq hU
    · omega
  | succ k ih =>
    intro jj a0 hj hU
    refine e_iload 77 dX12_best_75 rfl rfl ?_
    refine e_iload_n (i := 2) 78 dX12_best_77 rfl rfl rfl ?_
    refine e_icmp_ge 81 112 dX12_best_78 (by omega) (by omega) (by decide) rfl (fun b78 => ?_) (fun b78 => ?_)
    · omega
    · skip
      refine e_aload_n (i := 0) 82 dX12_best_81 rfl rfl rfl ?_
      refine e_getr (j := 33) 85 fl_12_75 dX12_best_82 at_928 rfl rfl tp_928_33 rfl ?_
      refine e_bipush 87 dX12_best_85 (by decide) rfl ?_
      refine e_iload_n (i := 1) 88 dX12_best_87 rfl rfl rfl ?_
      refine e_imul 89 dX12_best_88 rfl ?_
      refine e_iload 91 dX12_best_89 rfl rfl ?_
      refine e_iadd 92 dX12_best_91 rfl ?_
      refine e_lald 93 dX12_best_92 ar_948 (by omega) (by omega) rfl (fun r92 => ?_)
      refine e_lconst0 94 dX12_best_93 rfl ?_
      refine e_ldc2 (z := (99)) 97 (ix := 211) wd_1496 (by decide) dX12_best_94 rfl ?_
      refine e_callS 100 mt_yX12_within ms_yX12_within wd_1390 (by decide) dX12_best_97 rfl rfl (Nat.le_of_ble_eq_true rfl) (jroom (by decide)) rfl (m_within (by omega) (by omega) (by omega) (fun w97 => ?_) (fun w97 => ?_))
      · dsimp only [jpush]
        refine e_if_ne 103 106 dX12_best_100 (by decide) (by decide) rfl (fun _ => ?_) (fun h => absurd h (by decide))
        refine e_iinc (lsn := [(4, _), (0, _), (1, _), (2, _), (3, _)]) 109 dX12_best_106 rfl (by decide) rfl rfl ?_
        refine e_goto 75 dX12_best_109 (by decide) ?_
        refine e_ls (ls2 := [(0, _), (1, _), (2, _), (3, _), (4, _)]) rfl ?_
        refine ih (jj + 1) (by omega) (by omega) (fun j a b => ?_)
        by_cases e : j = jj
        · rw [e]
          omega
        · exact hU j a (by omega)
      · dsimp only [jpush]
        refine e_if_ne 103 106 dX12_best_100 (by decide) (by decide) rfl (fun h => absurd h (by decide)) (fun _ => ?_)
        refine e_bipush 105 dX12_best_103 (by decide) rfl ?_
        refine e_iret dX12_best_105 ?_
        exact h8 ⟨jj, a0, by omega, by omega⟩

