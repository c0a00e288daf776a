/-! PAIRS: life, needs, street, shilling -/
/-- a life: week by week from w on, with p in the purse, the suit with the shop since s -/
def rLife (due : Int → Int) (left gain : Int) : Nat → Int → Int → Int → Int
  | 0, _, _, _ => -1
  | n + 1, w, p, s =>
    if s ≠ -1 ∧ due (w - s) ≤ p then
      (if w32 (w32 (p - due (w - s)) + left) < 0 then
        (if w32 (w32 (w32 (p - due (w - s)) + left) + gain) < 0 then w else rLife due left gain n (w + 1) (w32 (w32 (w32 (p - due (w - s)) + left) + gain)) w)
      else rLife due left gain n (w + 1) (w32 (w32 (p - due (w - s)) + left)) (-1))
    else if s = -1 ∧ w32 (p + left) < 0 then
      (if w32 (w32 (p + left) + gain) < 0 then w else rLife due left gain n (w + 1) (w32 (w32 (p + left) + gain)) w)
    else if w32 (p + left) < 0 then w else rLife due left gain n (w + 1) (w32 (p + left)) s
def rLifeOf (a : Int → Int) (q loan wk more : Int) : Int := rLife (fun h => 2 * loan + rChg a 0 loan (1 + h / 2)) (2 * (a (644 + q) - a (660 + q) - a (676 + q))) (2 * loan - a 26) wk.toNat 0 (w32 (a (692 + q) + 2 * more)) (-1)
theorem rLife_rng {due : Int → Int} {left gain : Int} : ∀ (n : Nat) (w p s : Int), 0 ≤ w → w + n ≤ 1000 → -1 ≤ rLife due left gain n w p s ∧ rLife due left gain n w p s ≤ 1000
  | 0, _, _, _, _, _ => by
    unfold rLife
    omega
  | n + 1, w, p, s, h0, h1 => by
    have ih := fun p s => rLife_rng (due := due) (left := left) (gain := gain) n (w + 1) p s (by omega) (by omega)
    unfold rLife
    repeat' split
    all_goals first | exact ih _ _ | omega
theorem l_sinking {X : jX} {q loan wk left gain : Int} {due : Int → Int} {M : jM} {Q : Int → jM → Prop} (hC : CR M) (hq : 0 ≤ q ∧ q < M 929 643) (hl : 1 ≤ loan ∧ loan ≤ 999) (hwk : 0 ≤ wk ∧ wk ≤ 104) (hd : ∀ x, due x = 2 * loan + rChg (M 929) 0 loan (1 + x / 2)) (hgn : 2 * loan - M 6 1 = gain) (hu : (M 6 0 = M 929 25 ∧ M 6 1 = M 929 26) ∧ (0 ≤ M 929 25 ∧ M 929 25 ≤ 99) ∧ 0 ≤ M 929 26 ∧ M 929 26 ≤ 20) {more v5 : Int} : ∀ (n : Nat) (ii p s : Int), 0 ≤ ii → ii + n = wk → ((-2147483648 ≤ p ∧ p ≤ 2147483647) ∧ (s = -1 ∨ (0 ≤ s ∧ s < ii)) ∧ ii ≤ wk) → Q (rLife due left gain n ii p s) M → jE X yX8_sinkingWeek cX8_sinkingWeek 12 (some .int) 2 Q M 57 [(0, jR 1), (1, jI q), (2, jI loan), (3, jI wk), (4, jI more), (6, jI p), (7, jI left), (8, jI (lHalf M 2 loan)), (9, jI s), (10, jI ii)] [] := by
  intro n
  induction n with
  | zero =>
    intro ii p s h0 hi hr h
    have hW := fun z => w32_in z
    have hdr : s ≠ -1 → 0 ≤ due (ii - s) ∧ due (ii - s) ≤ 50000000 := fun _ => by
      rw [hd]
      have := rChg_rng (loan := loan) (hv := 1 + (ii - s) / 2) hC.rlaw hl (by omega)
      omega
    have i1 := w32_in (p - due (ii - s))
    have i2 := w32_in (w32 (p - due (ii - s)) + left)
    have i3 := w32_in (w32 (w32 (p - due (ii - s)) + left) + gain)
    have i4 := w32_in (p + left)
    have i5 := w32_in (w32 (p + left) + gain)
    clear hW
    clear i1 i2 i3 i4 i5 hdr
    rw [rLife] at h
    refine e_iload 59 dX8_sinkingWeek_57 rfl rfl ?_
    refine e_iload_n (i := 3) 60 dX8_sinkingWeek_59 rfl rfl rfl ?_
    refine e_icmp_ge 63 168 dX8_sinkingWeek_60 (by omega) (by omega) (by decide) rfl (fun b60 => ?_) (fun b60 => ?_)
    · skip
      refine e_iconst 169 dX8_sinkingWeek_168 rfl ?_
      refine e_iret dX8_sinkingWeek_169 ?_
      exact h
    · omega
  | succ n ih =>
    intro ii p s h0 hi hr h
    have hW := fun z => w32_in z
    have hdr : s ≠ -1 → 0 ≤ due (ii - s) ∧ due (ii - s) ≤ 50000000 := fun _ => by
      rw [hd]
      have := rChg_rng (loan := loan) (hv := 1 + (ii - s) / 2) hC.rlaw hl (by omega)
      omega
    have i1 := w32_in (p - due (ii - s))
    have i2 := w32_in (w32 (p - due (ii - s)) + left)
    have i3 := w32_in (w32 (w32 (p - due (ii - s)) + left) + gain)
    have i4 := w32_in (p + left)
    have i5 := w32_in (w32 (p + left) + gain)
    clear hW
    rw [rLife] at h
    refine e_iload 59 dX8_sinkingWeek_57 rfl rfl ?_
    refine e_iload_n (i := 3) 60 dX8_sinkingWeek_59 rfl rfl rfl ?_
    refine e_icmp_ge 63 168 dX8_sinkingWeek_60 (by omega) (by omega) (by decide) rfl (fun b60 => ?_) (fun b60 => ?_)
    · omega
    · skip
      refine e_iload 65 dX8_sinkingWeek_63 rfl rfl ?_
      refine e_iconst 66 dX8_sinkingWeek_65 rfl ?_
      refine e_icmp_eq 69 114 dX8_sinkingWeek_66 (by omega) (by decide) (by decide) rfl (fun b66 => ?_) (fun b66 => ?_)
      · skip
        refine e_iload 116 dX8_sinkingWeek_114 rfl rfl ?_
        refine e_iload 118 dX8_sinkingWeek_116 rfl rfl ?_
        refine e_iadd 119 dX8_sinkingWeek_118 rfl ?_
        refine e_w32 ?_
        refine e_istore (lsn := [(6, _), (0, _), (1, _), (2, _), (3, _), (4, _), (7, _), (8, _), (9, _), (10, _)]) 121 dX8_sinkingWeek_119 (by decide) rfl rfl ?_
        refine e_iload 123 dX8_sinkingWeek_121 rfl rfl ?_
        refine e_iconst 124 dX8_sinkingWeek_123 rfl ?_
        refine e_icmp_ne 127 154 dX8_sinkingWeek_124 (by omega) (by decide) (by decide) rfl (fun b124 => ?_) (fun b124 => ?_)
        · skip
          refine e_iload 156 dX8_sinkingWeek_154 rfl rfl ?_
          refine e_if_ge 159 162 dX8_sinkingWeek_156 (by omega) (by decide) rfl (fun b156 => ?_) (fun b156 => ?_)
          · skip
            refine e_iinc (lsn := [(10, _), (6, _), (0, _), (1, _), (2, _), (3, _), (4, _), (7, _), (8, _), (9, _)]) 165 dX8_sinkingWeek_162 rfl (by decide) rfl rfl ?_
            refine e_goto 57 dX8_sinkingWeek_165 (by decide) ?_
            refine e_ls (ls2 := [(0, _), (1, _), (2, _), (3, _), (4, _), (6, _), (7, _), (8, _), (9, _), (10, _)]) rfl ?_
            first
              | (exfalso; omega)
              | (rw [if_neg (by omega)] at h
                 rw [if_neg (by omega)] at h
                 rw [if_neg (by omega)] at h
                 exact ih _ _ _ (by omega) (by omega) (by omega) h)
          · skip
            refine e_iload 161 dX8_sinkingWeek_159 rfl rfl ?_
            refine e_iret dX8_sinkingWeek_161 ?_
            first
              | (exfalso; omega)
              | (rw [if_neg (by omega)] at h
                 rw [if_neg (by omega)] at h
                 rw [if_pos (by omega)] at h
                 exact h)
        · skip
          refine e_iload 129 dX8_sinkingWeek_127 rfl rfl ?_
          refine e_if_ge 132 154 dX8_sinkingWeek_129 (by omega) (by decide) rfl (fun b129 => ?_) (fun b129 => ?_)
          · skip
            refine e_iload 156 dX8_sinkingWeek_154 rfl rfl ?_
            refine e_if_ge 159 162 dX8_sinkingWeek_156 (by omega) (by decide) rfl (fun b156 => ?_) (fun b156 => ?_)
            · skip
              refine e_iinc (lsn := [(10, _), (6, _), (0, _), (1, _), (2, _), (3, _), (4, _), (7, _), (8, _), (9, _)]) 165 dX8_sinkingWeek_162 rfl (by decide) rfl rfl ?_
              refine e_goto 57 dX8_sinkingWeek_165 (by decide) ?_
              refine e_ls (ls2 := [(0, _), (1, _), (2, _), (3, _), (4, _), (6, _), (7, _), (8, _), (9, _), (10, _)]) rfl ?_
              first
                | (exfalso; omega)
                | (rw [if_neg (by omega)] at h
                   rw [if_neg (by omega)] at h
                   rw [if_neg (by omega)] at h
                   exact ih _ _ _ (by omega) (by omega) (by omega) h)
            · skip
              refine e_iload 161 dX8_sinkingWeek_159 rfl rfl ?_
              refine e_iret dX8_sinkingWeek_161 ?_
              first
                | (exfalso; omega)
                | (rw [if_neg (by omega)] at h
                   rw [if_neg (by omega)] at h
                   rw [if_pos (by omega)] at h
                   exact h)
          · skip
            refine e_iload 134 dX8_sinkingWeek_132 rfl rfl ?_
            refine e_iconst 135 dX8_sinkingWeek_134 rfl ?_
            refine e_iload_n (i := 2) 136 dX8_sinkingWeek_135 rfl rfl rfl ?_
            refine e_imul 137 dX8_sinkingWeek_136 rfl ?_
            refine e_aload_n (i := 0) 138 dX8_sinkingWeek_137 rfl rfl rfl ?_
            refine e_getr (j := 0) 141 fl_8_12 dX8_sinkingWeek_138 at_1 rfl rfl tp_1_0 rfl ?_
            refine e_getr (j := 4) 144 fl_8_167 dX8_sinkingWeek_141 at_2 rfl rfl tp_2_4 rfl ?_
            refine e_iconst 145 dX8_sinkingWeek_144 rfl ?_
            refine e_iald 146 dX8_sinkingWeek_145 ar_6 (by decide) (by decide) rfl (fun r145 => ?_)
            refine e_isub 147 dX8_sinkingWeek_146 rfl ?_
            rw [hgn]
            refine e_iadd 148 dX8_sinkingWeek_147 rfl ?_
            refine e_w32 ?_
            refine e_istore (lsn := [(6, _), (0, _), (1, _), (2, _), (3, _), (4, _), (7, _), (8, _), (9, _), (10, _)]) 150 dX8_sinkingWeek_148 (by decide) rfl rfl ?_
            refine e_iload 152 dX8_sinkingWeek_150 rfl rfl ?_
            refine e_istore (lsn := [(9, _), (6, _), (0, _), (1, _), (2, _), (3, _), (4, _), (7, _), (8, _), (10, _)]) 154 dX8_sinkingWeek_152 (by decide) rfl rfl ?_
            refine e_iload 156 dX8_sinkingWeek_154 rfl rfl ?_
            refine e_if_ge 159 162 dX8_sinkingWeek_156 (by omega) (by decide) rfl (fun b156 => ?_) (fun b156 => ?_)
            · skip
              refine e_iinc (lsn := [(10, _), (9, _), (6, _), (0, _), (1, _), (2, _), (3, _), (4, _), (7, _), (8, _)]) 165 dX8_sinkingWeek_162 rfl (by decide) rfl rfl ?_
              refine e_goto 57 dX8_sinkingWeek_165 (by decide) ?_
              refine e_ls (ls2 := [(0, _), (1, _), (2, _), (3, _), (4, _), (6, _), (7, _), (8, _), (9, _), (10, _)]) rfl ?_
              first
                | (exfalso; omega)
                | (rw [if_neg (by omega)] at h
                   rw [if_pos (by omega)] at h
                   rw [if_neg (by omega)] at h
                   exact ih _ _ _ (by omega) (by omega) (by omega) h)
            · skip
              refine e_iload 161 dX8_sinkingWeek_159 rfl rfl ?_
              refine e_iret dX8_sinkingWeek_161 ?_
              first
                | (exfalso; omega)
                | (rw [if_neg (by omega)] at h
                   rw [if_pos (by omega)] at h
                   rw [if_pos (by omega)] at h
                   exact h)
      · skip
        refine e_iconst 70 dX8_sinkingWeek_69 rfl ?_
        refine e_iload_n (i := 2) 71 dX8_sinkingWeek_70 rfl rfl rfl ?_
        refine e_imul 72 dX8_sinkingWeek_71 rfl ?_
        refine e_aload_n (i := 0) 73 dX8_sinkingWeek_72 rfl rfl rfl ?_
        refine e_getr (j := 0) 76 fl_8_12 dX8_sinkingWeek_73 at_1 rfl rfl tp_1_0 rfl ?_
        refine e_getr (j := 4) 79 fl_8_167 dX8_sinkingWeek_76 at_2 rfl rfl tp_2_4 rfl ?_
        refine e_iconst 80 dX8_sinkingWeek_79 rfl ?_
        refine e_iald 81 dX8_sinkingWeek_80 ar_6 (by decide) (by decide) rfl (fun r80 => ?_)
        refine e_iload 83 dX8_sinkingWeek_81 rfl rfl ?_
        refine e_iload 85 dX8_sinkingWeek_83 rfl rfl ?_
        refine e_callS 88 mt_yX1_halves ms_yX1_halves wd_825 (by decide) dX8_sinkingWeek_85 rfl rfl (Nat.le_of_ble_eq_true rfl) (jroom (by decide)) rfl (c_halves (by omega) ?_)
        dsimp only [jpush]
        have g1 := lHalf_rng hC.lrel.ok hl
        have g2 : 0 ≤ (1 + (ii - s) / 2) * lHalf M 2 loan := Int.mul_nonneg (by omega) g1.1
        have g3 : (1 + (ii - s) / 2) * lHalf M 2 loan ≤ 400 * 98901 := Int.mul_le_mul (by omega) g1.2 g1.1 (by omega)
        have gm := hu.1.1
        have hcd : 2 * loan + max (M 6 0) ((1 + (ii - s) / 2) * lHalf M 2 loan) = due (ii - s) := by
          rw [hd, ← hC.lrel.chg]
          rfl
        refine e_iload 90 dX8_sinkingWeek_88 rfl rfl ?_
        refine e_imul 91 dX8_sinkingWeek_90 rfl ?_
        refine e_maxI 94 wd_875 dX8_sinkingWeek_91 (by omega) (by omega) (Nat.le_of_ble_eq_true rfl) (jroom (by decide)) rfl ?_
        refine e_iadd 95 dX8_sinkingWeek_94 rfl ?_
        rw [hcd]
        refine e_istore (lsn := [(11, _), (0, _), (1, _), (2, _), (3, _), (4, _), (6, _), (7, _), (8, _), (9, _), (10, _)]) 97 dX8_sinkingWeek_95 (by decide) rfl rfl ?_
        refine e_iload 99 dX8_sinkingWeek_97 rfl rfl ?_
        refine e_iload 101 dX8_sinkingWeek_99 rfl rfl ?_
        refine e_icmp_lt 104 114 dX8_sinkingWeek_101 (by omega) (by omega) (by decide) rfl (fun b101 => ?_) (fun b101 => ?_)
        · skip
          refine e_iload 116 dX8_sinkingWeek_114 rfl rfl ?_
          refine e_iload 118 dX8_sinkingWeek_116 rfl rfl ?_
          refine e_iadd 119 dX8_sinkingWeek_118 rfl ?_
          refine e_w32 ?_
          refine e_istore (lsn := [(6, _), (11, _), (0, _), (1, _), (2, _), (3, _), (4, _), (7, _), (8, _), (9, _), (10, _)]) 121 dX8_sinkingWeek_119 (by decide) rfl rfl ?_
          refine e_iload 123 dX8_sinkingWeek_121 rfl rfl ?_
          refine e_iconst 124 dX8_sinkingWeek_123 rfl ?_
          refine e_icmp_ne 127 154 dX8_sinkingWeek_124 (by omega) (by decide) (by decide) rfl (fun b124 => ?_) (fun b124 => ?_)
          · skip
            refine e_iload 156 dX8_sinkingWeek_154 rfl rfl ?_
            refine e_if_ge 159 162 dX8_sinkingWeek_156 (by omega) (by decide) rfl (fun b156 => ?_) (fun b156 => ?_)
            · skip
              refine e_iinc (lsn := [(10, _), (6, _), (11, _), (0, _), (1, _), (2, _), (3, _), (4, _), (7, _), (8, _), (9, _)]) 165 dX8_sinkingWeek_162 rfl (by decide) rfl rfl ?_
              refine e_goto 57 dX8_sinkingWeek_165 (by decide) ?_
              refine e_ls (ls2 := [(0, _), (1, _), (2, _), (3, _), (4, _), (6, _), (7, _), (8, _), (9, _), (10, _)]) rfl ?_
              first
                | (exfalso; omega)
                | (rw [if_neg (by omega)] at h
                   rw [if_neg (by omega)] at h
                   rw [if_neg (by omega)] at h
                   exact ih _ _ _ (by omega) (by omega) (by omega) h)
            · skip
              refine e_iload 161 dX8_sinkingWeek_159 rfl rfl ?_
              refine e_iret dX8_sinkingWeek_161 ?_
              first
                | (exfalso; omega)
                | (rw [if_neg (by omega)] at h
                   rw [if_neg (by omega)] at h
                   rw [if_pos (by omega)] at h
                   exact h)
          · skip
            refine e_iload 129 dX8_sinkingWeek_127 rfl rfl ?_
            refine e_if_ge 132 154 dX8_sinkingWeek_129 (by omega) (by decide) rfl (fun b129 => ?_) (fun b129 => ?_)
            · skip
              refine e_iload 156 dX8_sinkingWeek_154 rfl rfl ?_
              refine e_if_ge 159 162 dX8_sinkingWeek_156 (by omega) (by decide) rfl (fun b156 => ?_) (fun b156 => ?_)
              · skip
                refine e_iinc (lsn := [(10, _), (6, _), (11, _), (0, _), (1, _), (2, _), (3, _), (4, _), (7, _), (8, _), (9, _)]) 165 dX8_sinkingWeek_162 rfl (by decide) rfl rfl ?_
                refine e_goto 57 dX8_sinkingWeek_165 (by decide) ?_
                refine e_ls (ls2 := [(0, _), (1, _), (2, _), (3, _), (4, _), (6, _), (7, _), (8, _), (9, _), (10, _)]) rfl ?_
                first
                  | (exfalso; omega)
                  | (rw [if_neg (by omega)] at h
                     rw [if_neg (by omega)] at h
                     rw [if_neg (by omega)] at h
                     exact ih _ _ _ (by omega) (by omega) (by omega) h)
              · skip
                refine e_iload 161 dX8_sinkingWeek_159 rfl rfl ?_
                refine e_iret dX8_sinkingWeek_161 ?_
                first
                  | (exfalso; omega)
                  | (rw [if_neg (by omega)] at h
                     rw [if_neg (by omega)] at h
                     rw [if_pos (by omega)] at h
                     exact h)
            · skip
              refine e_iload 134 dX8_sinkingWeek_132 rfl rfl ?_
              refine e_iconst 135 dX8_sinkingWeek_134 rfl ?_
              refine e_iload_n (i := 2) 136 dX8_sinkingWeek_135 rfl rfl rfl ?_
              refine e_imul 137 dX8_sinkingWeek_136 rfl ?_
              refine e_aload_n (i := 0) 138 dX8_sinkingWeek_137 rfl rfl rfl ?_
              refine e_getr (j := 0) 141 fl_8_12 dX8_sinkingWeek_138 at_1 rfl rfl tp_1_0 rfl ?_
              refine e_getr (j := 4) 144 fl_8_167 dX8_sinkingWeek_141 at_2 rfl rfl tp_2_4 rfl ?_
              refine e_iconst 145 dX8_sinkingWeek_144 rfl ?_
              refine e_iald 146 dX8_sinkingWeek_145 ar_6 (by decide) (by decide) rfl (fun r145 => ?_)
              refine e_isub 147 dX8_sinkingWeek_146 rfl ?_
              rw [hgn]
              refine e_iadd 148 dX8_sinkingWeek_147 rfl ?_
              refine e_w32 ?_
              refine e_istore (lsn := [(6, _), (11, _), (0, _), (1, _), (2, _), (3, _), (4, _), (7, _), (8, _), (9, _), (10, _)]) 150 dX8_sinkingWeek_148 (by decide) rfl rfl ?_
              refine e_iload 152 dX8_sinkingWeek_150 rfl rfl ?_
              refine e_istore (lsn := [(9, _), (6, _), (11, _), (0, _), (1, _), (2, _), (3, _), (4, _), (7, _), (8, _), (10, _)]) 154 dX8_sinkingWeek_152 (by decide) rfl rfl ?_
              refine e_iload 156 dX8_sinkingWeek_154 rfl rfl ?_
              refine e_if_ge 159 162 dX8_sinkingWeek_156 (by omega) (by decide) rfl (fun b156 => ?_) (fun b156 => ?_)
              · skip
                refine e_iinc (lsn := [(10, _), (9, _), (6, _), (11, _), (0, _), (1, _), (2, _), (3, _), (4, _), (7, _), (8, _)]) 165 dX8_sinkingWeek_162 rfl (by decide) rfl rfl ?_
                refine e_goto 57 dX8_sinkingWeek_165 (by decide) ?_
                refine e_ls (ls2 := [(0, _), (1, _), (2, _), (3, _), (4, _), (6, _), (7, _), (8, _), (9, _), (10, _)]) rfl ?_
                first
                  | (exfalso; omega)
                  | (rw [if_neg (by omega)] at h
                     rw [if_pos (by omega)] at h
                     rw [if_neg (by omega)] at h
                     exact ih _ _ _ (by omega) (by omega) (by omega) h)
              · skip
                refine e_iload 161 dX8_sinkingWeek_159 rfl rfl ?_
                refine e_iret dX8_sinkingWeek_161 ?_
                first
                  | (exfalso; omega)
                  | (rw [if_neg (by omega)] at h
                     rw [if_pos (by omega)] at h
                     rw [if_pos (by omega)] at h
                     exact h)
        · skip
          refine e_iload 106 dX8_sinkingWeek_104 rfl rfl ?_
          refine e_iload 108 dX8_sinkingWeek_106 rfl rfl ?_
          refine e_isub 109 dX8_sinkingWeek_108 rfl ?_
          refine e_w32 ?_
          refine e_istore (lsn := [(6, _), (11, _), (0, _), (1, _), (2, _), (3, _), (4, _), (7, _), (8, _), (9, _), (10, _)]) 111 dX8_sinkingWeek_109 (by decide) rfl rfl ?_
          refine e_iconst 112 dX8_sinkingWeek_111 rfl ?_
          refine e_istore (lsn := [(9, _), (6, _), (11, _), (0, _), (1, _), (2, _), (3, _), (4, _), (7, _), (8, _), (10, _)]) 114 dX8_sinkingWeek_112 (by decide) rfl rfl ?_
          refine e_iload 116 dX8_sinkingWeek_114 rfl rfl ?_
          refine e_iload 118 dX8_sinkingWeek_116 rfl rfl ?_
          refine e_iadd 119 dX8_sinkingWeek_118 rfl ?_
          refine e_w32 ?_
          refine e_istore (lsn := [(6, _), (9, _), (11, _), (0, _), (1, _), (2, _), (3, _), (4, _), (7, _), (8, _), (10, _)]) 121 dX8_sinkingWeek_119 (by decide) rfl rfl ?_
          refine e_iload 123 dX8_sinkingWeek_121 rfl rfl ?_
          refine e_iconst 124 dX8_sinkingWeek_123 rfl ?_
          refine e_icmp_ne 127 154 dX8_sinkingWeek_124 (by decide) (by decide) (by decide) rfl (fun h => absurd h (by decide)) (fun _ => ?_)
          refine e_iload 129 dX8_sinkingWeek_127 rfl rfl ?_
          refine e_if_ge 132 154 dX8_sinkingWeek_129 (by omega) (by decide) rfl (fun b129 => ?_) (fun b129 => ?_)
          · skip
            refine e_iload 156 dX8_sinkingWeek_154 rfl rfl ?_
            refine e_if_ge 159 162 dX8_sinkingWeek_156 (by omega) (by decide) rfl (fun b156 => ?_) (fun b156 => ?_)
            · skip
              refine e_iinc (lsn := [(10, _), (6, _), (9, _), (11, _), (0, _), (1, _), (2, _), (3, _), (4, _), (7, _), (8, _)]) 165 dX8_sinkingWeek_162 rfl (by decide) rfl rfl ?_
              refine e_goto 57 dX8_sinkingWeek_165 (by decide) ?_
              refine e_ls (ls2 := [(0, _), (1, _), (2, _), (3, _), (4, _), (6, _), (7, _), (8, _), (9, _), (10, _)]) rfl ?_
              first
                | (exfalso; omega)
                | (rw [if_pos (by omega)] at h
                   rw [if_neg (by omega)] at h
                   exact ih _ _ _ (by omega) (by omega) (by omega) h)
            · skip
              refine e_iload 161 dX8_sinkingWeek_159 rfl rfl ?_
              refine e_iret dX8_sinkingWeek_161 ?_
              first
                | (exfalso; omega)
                | (rw [if_pos (by omega)] at h
                   rw [if_neg (by omega)] at h
                   exact h)
          · skip
            refine e_iload 134 dX8_sinkingWeek_132 rfl rfl ?_
            refine e_iconst 135 dX8_sinkingWeek_134 rfl ?_
            refine e_iload_n (i := 2) 136 dX8_sinkingWeek_135 rfl rfl rfl ?_
            refine e_imul 137 dX8_sinkingWeek_136 rfl ?_
            refine e_aload_n (i := 0) 138 dX8_sinkingWeek_137 rfl rfl rfl ?_
            refine e_getr (j := 0) 141 fl_8_12 dX8_sinkingWeek_138 at_1 rfl rfl tp_1_0 rfl ?_
            refine e_getr (j := 4) 144 fl_8_167 dX8_sinkingWeek_141 at_2 rfl rfl tp_2_4 rfl ?_
            refine e_iconst 145 dX8_sinkingWeek_144 rfl ?_
            refine e_iald 146 dX8_sinkingWeek_145 ar_6 (by decide) (by decide) rfl (fun r145 => ?_)
            refine e_isub 147 dX8_sinkingWeek_146 rfl ?_
            rw [hgn]
            refine e_iadd 148 dX8_sinkingWeek_147 rfl ?_
            refine e_w32 ?_
            refine e_istore (lsn := [(6, _), (9, _), (11, _), (0, _), (1, _), (2, _), (3, _), (4, _), (7, _), (8, _), (10, _)]) 150 dX8_sinkingWeek_148 (by decide) rfl rfl ?_
            refine e_iload 152 dX8_sinkingWeek_150 rfl rfl ?_
            refine e_istore (lsn := [(9, _), (6, _), (11, _), (0, _), (1, _), (2, _), (3, _), (4, _), (7, _), (8, _), (10, _)]) 154 dX8_sinkingWeek_152 (by decide) rfl rfl ?_
            refine e_iload 156 dX8_sinkingWeek_154 rfl rfl ?_
            refine e_if_ge 159 162 dX8_sinkingWeek_156 (by omega) (by decide) rfl (fun b156 => ?_) (fun b156 => ?_)
            · skip
              refine e_iinc (lsn := [(10, _), (9, _), (6, _), (11, _), (0, _), (1, _), (2, _), (3, _), (4, _), (7, _), (8, _)]) 165 dX8_sinkingWeek_162 rfl (by decide) rfl rfl ?_
              refine e_goto 57 dX8_sinkingWeek_165 (by decide) ?_
              refine e_ls (ls2 := [(0, _), (1, _), (2, _), (3, _), (4, _), (6, _), (7, _), (8, _), (9, _), (10, _)]) rfl ?_
              first
                | (exfalso; omega)
                | (rw [if_pos (by omega)] at h
                   rw [if_pos (by omega)] at h
                   rw [if_neg (by omega)] at h
                   exact ih _ _ _ (by omega) (by omega) (by omega) h)
            · skip
              refine e_iload 161 dX8_sinkingWeek_159 rfl rfl ?_
              refine e_iret dX8_sinkingWeek_161 ?_
              first
                | (exfalso; omega)
                | (rw [if_pos (by omega)] at h
                   rw [if_pos (by omega)] at h
                   rw [if_pos (by omega)] at h
                   exact h)

theorem c_sinking {q loan wk more : Int} {M : jM} {Q : Int → jM → Prop} (hC : CR M) (hq : 0 ≤ q ∧ q < M 929 643) (hl : 1 ≤ loan ∧ loan ≤ 999) (hwk : 0 ≤ wk ∧ wk ≤ 104) (hm : 0 ≤ more ∧ more ≤ 999) (h : Q (rLifeOf (M 929) q loan wk more) M) : jCt yX8_sinkingWeek cX8_sinkingWeek 12 (some .int) 2 [jR 1, jI q, jI loan, jI wk, jI more] M Q := by
  refine jCt_of mt_yX8_sinkingWeek (Nat.le_of_ble_eq_true rfl) (fun X => ?_)
  have hn := hC.cnt
  have hg := hC.rng
  have hp := hC.pers hq.1 hq.2
  have hu := hC.rule
  refine e_aload_n (i := 0) 1 dX8_sinkingWeek_0 rfl rfl rfl ?_
  refine e_getr (j := 7) 4 fl_8_36 dX8_sinkingWeek_1 at_1 rfl rfl tp_1_7 rfl ?_
  refine e_iload_n (i := 1) 5 dX8_sinkingWeek_4 rfl rfl rfl ?_
  refine e_aald 6 dX8_sinkingWeek_5 ar_17 (by decide) (by omega) (by omega) (tp_person (by omega) (by omega)) rfl ?_
  refine e_astore (lsn := [(5, _), (0, _), (1, _), (2, _), (3, _), (4, _)]) 8 dX8_sinkingWeek_6 (by decide) rfl rfl ?_
  refine e_aload 10 dX8_sinkingWeek_8 rfl rfl ?_
  refine e_geti (j := 3) 13 fl_8_164 dX8_sinkingWeek_10 (at_person (by omega) (by omega)) (by decide) rfl rfl (fun r10 => ?_)
  refine e_iconst 14 dX8_sinkingWeek_13 rfl ?_
  refine e_iload 16 dX8_sinkingWeek_14 rfl rfl ?_
  refine e_imul 17 dX8_sinkingWeek_16 rfl ?_
  refine e_iadd 18 dX8_sinkingWeek_17 rfl ?_
  rw [hp.1.2.2.2.1]
  refine e_w32 ?_
  refine e_istore (lsn := [(6, _), (5, _), (0, _), (1, _), (2, _), (3, _), (4, _)]) 20 dX8_sinkingWeek_18 (by decide) rfl rfl ?_
  refine e_iconst 21 dX8_sinkingWeek_20 rfl ?_
  refine e_aload 23 dX8_sinkingWeek_21 rfl rfl ?_
  refine e_geti (j := 0) 26 fl_8_249 dX8_sinkingWeek_23 (at_person (by omega) (by omega)) (by decide) rfl rfl (fun r23 => ?_)
  refine e_aload 28 dX8_sinkingWeek_26 rfl rfl ?_
  refine e_geti (j := 1) 31 fl_8_252 dX8_sinkingWeek_28 (at_person (by omega) (by omega)) (by decide) rfl rfl (fun r28 => ?_)
  refine e_isub 32 dX8_sinkingWeek_31 rfl ?_
  refine e_aload 34 dX8_sinkingWeek_32 rfl rfl ?_
  refine e_geti (j := 2) 37 fl_8_255 dX8_sinkingWeek_34 (at_person (by omega) (by omega)) (by decide) rfl rfl (fun r34 => ?_)
  refine e_isub 38 dX8_sinkingWeek_37 rfl ?_
  refine e_imul 39 dX8_sinkingWeek_38 rfl ?_
  rw [hp.1.1, hp.1.2.1, hp.1.2.2.1]
  refine e_istore (lsn := [(7, _), (6, _), (5, _), (0, _), (1, _), (2, _), (3, _), (4, _)]) 41 dX8_sinkingWeek_39 (by decide) rfl rfl ?_
  refine e_aload_n (i := 0) 42 dX8_sinkingWeek_41 rfl rfl rfl ?_
  refine e_getr (j := 0) 45 fl_8_12 dX8_sinkingWeek_42 at_1 rfl rfl tp_1_0 rfl ?_
  refine e_iload_n (i := 2) 46 dX8_sinkingWeek_45 rfl rfl rfl ?_
  refine e_callV 49 mt_yX1_takenByHalf mv_yX1_takenByHalf wd_1024 (by decide) dX8_sinkingWeek_46 at_2 jc_1 rfl rfl rfl (Nat.le_of_ble_eq_true rfl) (jroom (by decide)) rfl (c_half (by omega) lw_2 hC.lrel.ok ?_)
  dsimp only [jpush]
  refine e_istore (lsn := [(8, _), (7, _), (6, _), (5, _), (0, _), (1, _), (2, _), (3, _), (4, _)]) 51 dX8_sinkingWeek_49 (by decide) rfl rfl ?_
  refine e_iconst 52 dX8_sinkingWeek_51 rfl ?_
  refine e_istore (lsn := [(9, _), (8, _), (7, _), (6, _), (5, _), (0, _), (1, _), (2, _), (3, _), (4, _)]) 54 dX8_sinkingWeek_52 (by decide) rfl rfl ?_
  refine e_iconst 55 dX8_sinkingWeek_54 rfl ?_
  refine e_istore (lsn := [(10, _), (9, _), (8, _), (7, _), (6, _), (5, _), (0, _), (1, _), (2, _), (3, _), (4, _)]) 57 dX8_sinkingWeek_55 (by decide) rfl rfl ?_
  refine e_ls (ls2 := [(0, _), (1, _), (2, _), (3, _), (4, _), (6, _), (7, _), (8, _), (9, _), (10, _)]) rfl ?_
  exact l_sinking (v5 := 0) hC hq hl hwk (fun x => rfl) (by rw [hu.1.2.1]) (by omega) wk.toNat 0 _ (-1) (by omega) (by omega) ⟨w32_in _, by omega, by omega⟩ h

theorem l_lifeOf {X : jX} {q loan wk left gain : Int} {due : Int → Int} {M : jM} {Q : Int → jM → Prop} (hC : CR M) (hq : 0 ≤ q ∧ q < M 929 643) (hl : 1 ≤ loan ∧ loan ≤ 999) (hwk : 0 ≤ wk ∧ wk ≤ 104) (hd : ∀ x, due x = 2 * loan + rChg (M 929) 0 loan (1 + x / 2)) (hgn : 2 * loan - M 929 26 = gain) (hlf : 2 * (M 929 (644 + q) - M 929 (660 + q) - M 929 (676 + q)) = left) (hto : loan ≤ rTop (M 929) 0) {more : Int} : ∀ (n : Nat) (ii p s : Int), 0 ≤ ii → ii + n = wk → ((-2147483648 ≤ p ∧ p ≤ 2147483647) ∧ (s = -1 ∨ (0 ≤ s ∧ s < ii)) ∧ ii ≤ wk) → Q (rLife due left gain n ii p s) M → jE X yX12_lifeOf cX12_lifeOf 9 (some .int) 2 Q M 23 [(0, jR 928), (1, jI q), (2, jI loan), (3, jI wk), (4, jI more), (5, jI p), (6, jI s), (7, jI ii)] [] := by
  intro n
  induction n with
  | zero =>
    intro ii p s h0 hi hr h
    have hn := hC.cnt
    have hg := hC.rng
    have hW := fun z => w32_in z
    have hdr : s ≠ -1 → 0 ≤ due (ii - s) ∧ due (ii - s) ≤ 50000000 := fun _ => by
      rw [hd]
      have := rChg_rng (loan := loan) (hv := 1 + (ii - s) / 2) hC.rlaw hl (by omega)
      omega
    have i1 := w32_in (p - due (ii - s))
    have i2 := w32_in (w32 (p - due (ii - s)) + left)
    have i3 := w32_in (w32 (w32 (p - due (ii - s)) + left) + gain)
    have i4 := w32_in (p + left)
    have i5 := w32_in (w32 (p + left) + gain)
    clear hW
    clear i1 i2 i3 i4 i5 hdr
    rw [rLife] at h
    refine e_iload 25 dX12_lifeOf_23 rfl rfl ?_
    refine e_iload_n (i := 3) 26 dX12_lifeOf_25 rfl rfl rfl ?_
    refine e_icmp_ge 29 156 dX12_lifeOf_26 (by omega) (by omega) (by decide) rfl (fun b26 => ?_) (fun b26 => ?_)
    · skip
      refine e_iconst 157 dX12_lifeOf_156 rfl ?_
      refine e_iret dX12_lifeOf_157 ?_
      exact h
    · omega
  | succ n ih =>
    intro ii p s h0 hi hr h
    have hn := hC.cnt
    have hg := hC.rng
    have hW := fun z => w32_in z
    have hdr : s ≠ -1 → 0 ≤ due (ii - s) ∧ due (ii - s) ≤ 50000000 := fun _ => by
      rw [hd]
      have := rChg_rng (loan := loan) (hv := 1 + (ii - s) / 2) hC.rlaw hl (by omega)
      omega
    have i1 := w32_in (p - due (ii - s))
    have i2 := w32_in (w32 (p - due (ii - s)) + left)
    have i3 := w32_in (w32 (w32 (p - due (ii - s)) + left) + gain)
    have i4 := w32_in (p + left)
    have i5 := w32_in (w32 (p + left) + gain)
    clear hW
    rw [rLife] at h
    refine e_iload 25 dX12_lifeOf_23 rfl rfl ?_
    refine e_iload_n (i := 3) 26 dX12_lifeOf_25 rfl rfl rfl ?_
    refine e_icmp_ge 29 156 dX12_lifeOf_26 (by omega) (by omega) (by decide) rfl (fun b26 => ?_) (fun b26 => ?_)
    · omega
    · skip
      refine e_iload 31 dX12_lifeOf_29 rfl rfl ?_
      refine e_iconst 32 dX12_lifeOf_31 rfl ?_
      refine e_icmp_eq 35 72 dX12_lifeOf_32 (by omega) (by decide) (by decide) rfl (fun b32 => ?_) (fun b32 => ?_)
      · skip
        refine e_iload 74 dX12_lifeOf_72 rfl rfl ?_
        refine e_iconst 75 dX12_lifeOf_74 rfl ?_
        refine e_aload_n (i := 0) 76 dX12_lifeOf_75 rfl rfl rfl ?_
        refine e_getr (j := 1) 79 fl_12_13 dX12_lifeOf_76 at_928 rfl rfl tp_928_1 rfl ?_
        refine e_sipush 82 dX12_lifeOf_79 (by decide) rfl ?_
        refine e_iload_n (i := 1) 83 dX12_lifeOf_82 rfl rfl rfl ?_
        refine e_iadd 84 dX12_lifeOf_83 rfl ?_
        refine e_iald 85 dX12_lifeOf_84 ar_929 (by omega) (by omega) rfl (fun r84 => ?_)
        refine e_aload_n (i := 0) 86 dX12_lifeOf_85 rfl rfl rfl ?_
        refine e_getr (j := 1) 89 fl_12_13 dX12_lifeOf_86 at_928 rfl rfl tp_928_1 rfl ?_
        refine e_sipush 92 dX12_lifeOf_89 (by decide) rfl ?_
        refine e_iload_n (i := 1) 93 dX12_lifeOf_92 rfl rfl rfl ?_
        refine e_iadd 94 dX12_lifeOf_93 rfl ?_
        refine e_iald 95 dX12_lifeOf_94 ar_929 (by omega) (by omega) rfl (fun r94 => ?_)
        refine e_isub 96 dX12_lifeOf_95 rfl ?_
        refine e_aload_n (i := 0) 97 dX12_lifeOf_96 rfl rfl rfl ?_
        refine e_getr (j := 1) 100 fl_12_13 dX12_lifeOf_97 at_928 rfl rfl tp_928_1 rfl ?_
        refine e_sipush 103 dX12_lifeOf_100 (by decide) rfl ?_
        refine e_iload_n (i := 1) 104 dX12_lifeOf_103 rfl rfl rfl ?_
        refine e_iadd 105 dX12_lifeOf_104 rfl ?_
        refine e_iald 106 dX12_lifeOf_105 ar_929 (by omega) (by omega) rfl (fun r105 => ?_)
        refine e_isub 107 dX12_lifeOf_106 rfl ?_
        refine e_imul 108 dX12_lifeOf_107 rfl ?_
        rw [hlf]
        refine e_iadd 109 dX12_lifeOf_108 rfl ?_
        refine e_w32 ?_
        refine e_istore (lsn := [(5, _), (0, _), (1, _), (2, _), (3, _), (4, _), (6, _), (7, _)]) 111 dX12_lifeOf_109 (by decide) rfl rfl ?_
        refine e_iload 113 dX12_lifeOf_111 rfl rfl ?_
        refine e_iconst 114 dX12_lifeOf_113 rfl ?_
        refine e_icmp_ne 117 142 dX12_lifeOf_114 (by omega) (by decide) (by decide) rfl (fun b114 => ?_) (fun b114 => ?_)
        · skip
          refine e_iload 144 dX12_lifeOf_142 rfl rfl ?_
          refine e_if_ge 147 150 dX12_lifeOf_144 (by omega) (by decide) rfl (fun b144 => ?_) (fun b144 => ?_)
          · skip
            refine e_iinc (lsn := [(7, _), (5, _), (0, _), (1, _), (2, _), (3, _), (4, _), (6, _)]) 153 dX12_lifeOf_150 rfl (by decide) rfl rfl ?_
            refine e_goto 23 dX12_lifeOf_153 (by decide) ?_
            refine e_ls (ls2 := [(0, _), (1, _), (2, _), (3, _), (4, _), (5, _), (6, _), (7, _)]) rfl ?_
            first
              | (exfalso; omega)
              | (rw [if_neg (by omega)] at h
                 rw [if_neg (by omega)] at h
                 rw [if_neg (by omega)] at h
                 exact ih _ _ _ (by omega) (by omega) (by omega) h)
          · skip
            refine e_iload 149 dX12_lifeOf_147 rfl rfl ?_
            refine e_iret dX12_lifeOf_149 ?_
            first
              | (exfalso; omega)
              | (rw [if_neg (by omega)] at h
                 rw [if_neg (by omega)] at h
                 rw [if_pos (by omega)] at h
                 exact h)
        · skip
          refine e_iload 119 dX12_lifeOf_117 rfl rfl ?_
          refine e_if_ge 122 142 dX12_lifeOf_119 (by omega) (by decide) rfl (fun b119 => ?_) (fun b119 => ?_)
          · skip
            refine e_iload 144 dX12_lifeOf_142 rfl rfl ?_
            refine e_if_ge 147 150 dX12_lifeOf_144 (by omega) (by decide) rfl (fun b144 => ?_) (fun b144 => ?_)
            · skip
              refine e_iinc (lsn := [(7, _), (5, _), (0, _), (1, _), (2, _), (3, _), (4, _), (6, _)]) 153 dX12_lifeOf_150 rfl (by decide) rfl rfl ?_
              refine e_goto 23 dX12_lifeOf_153 (by decide) ?_
              refine e_ls (ls2 := [(0, _), (1, _), (2, _), (3, _), (4, _), (5, _), (6, _), (7, _)]) rfl ?_
              first
                | (exfalso; omega)
                | (rw [if_neg (by omega)] at h
                   rw [if_neg (by omega)] at h
                   rw [if_neg (by omega)] at h
                   exact ih _ _ _ (by omega) (by omega) (by omega) h)
            · skip
              refine e_iload 149 dX12_lifeOf_147 rfl rfl ?_
              refine e_iret dX12_lifeOf_149 ?_
              first
                | (exfalso; omega)
                | (rw [if_neg (by omega)] at h
                   rw [if_neg (by omega)] at h
                   rw [if_pos (by omega)] at h
                   exact h)
          · skip
            refine e_iload 124 dX12_lifeOf_122 rfl rfl ?_
            refine e_iconst 125 dX12_lifeOf_124 rfl ?_
            refine e_iload_n (i := 2) 126 dX12_lifeOf_125 rfl rfl rfl ?_
            refine e_imul 127 dX12_lifeOf_126 rfl ?_
            refine e_aload_n (i := 0) 128 dX12_lifeOf_127 rfl rfl rfl ?_
            refine e_getr (j := 1) 131 fl_12_13 dX12_lifeOf_128 at_928 rfl rfl tp_928_1 rfl ?_
            refine e_bipush 133 dX12_lifeOf_131 (by decide) rfl ?_
            refine e_iald 134 dX12_lifeOf_133 ar_929 (by decide) (by decide) rfl (fun r133 => ?_)
            refine e_isub 135 dX12_lifeOf_134 rfl ?_
            rw [hgn]
            refine e_iadd 136 dX12_lifeOf_135 rfl ?_
            refine e_w32 ?_
            refine e_istore (lsn := [(5, _), (0, _), (1, _), (2, _), (3, _), (4, _), (6, _), (7, _)]) 138 dX12_lifeOf_136 (by decide) rfl rfl ?_
            refine e_iload 140 dX12_lifeOf_138 rfl rfl ?_
            refine e_istore (lsn := [(6, _), (5, _), (0, _), (1, _), (2, _), (3, _), (4, _), (7, _)]) 142 dX12_lifeOf_140 (by decide) rfl rfl ?_
            refine e_iload 144 dX12_lifeOf_142 rfl rfl ?_
            refine e_if_ge 147 150 dX12_lifeOf_144 (by omega) (by decide) rfl (fun b144 => ?_) (fun b144 => ?_)
            · skip
              refine e_iinc (lsn := [(7, _), (6, _), (5, _), (0, _), (1, _), (2, _), (3, _), (4, _)]) 153 dX12_lifeOf_150 rfl (by decide) rfl rfl ?_
              refine e_goto 23 dX12_lifeOf_153 (by decide) ?_
              refine e_ls (ls2 := [(0, _), (1, _), (2, _), (3, _), (4, _), (5, _), (6, _), (7, _)]) rfl ?_
              first
                | (exfalso; omega)
                | (rw [if_neg (by omega)] at h
                   rw [if_pos (by omega)] at h
                   rw [if_neg (by omega)] at h
                   exact ih _ _ _ (by omega) (by omega) (by omega) h)
            · skip
              refine e_iload 149 dX12_lifeOf_147 rfl rfl ?_
              refine e_iret dX12_lifeOf_149 ?_
              first
                | (exfalso; omega)
                | (rw [if_neg (by omega)] at h
                   rw [if_pos (by omega)] at h
                   rw [if_pos (by omega)] at h
                   exact h)
      · skip
        refine e_iconst 36 dX12_lifeOf_35 rfl ?_
        refine e_iload_n (i := 2) 37 dX12_lifeOf_36 rfl rfl rfl ?_
        refine e_imul 38 dX12_lifeOf_37 rfl ?_
        refine e_aload_n (i := 0) 39 dX12_lifeOf_38 rfl rfl rfl ?_
        refine e_iconst 40 dX12_lifeOf_39 rfl ?_
        refine e_iload_n (i := 2) 41 dX12_lifeOf_40 rfl rfl rfl ?_
        refine e_iload 43 dX12_lifeOf_41 rfl rfl ?_
        refine e_iload 45 dX12_lifeOf_43 rfl rfl ?_
        refine e_isub 46 dX12_lifeOf_45 rfl ?_
        refine e_callS 49 mt_yX12_halvesOf ms_yX12_halvesOf wd_1484 (by decide) dX12_lifeOf_46 rfl rfl (Nat.le_of_ble_eq_true rfl) (jroom (by decide)) rfl (m_halvesOf (by omega) ?_)
        dsimp only [jpush]
        refine e_callV 52 mt_yX12_interestBy mv_yX12_interestBy wd_1487 (by decide) dX12_lifeOf_49 at_928 jc_12 rfl rfl rfl (Nat.le_of_ble_eq_true rfl) (jroom (by decide)) rfl (m_interestBy (by decide) (by omega) (by omega) hC.rlaw (fun w49 => ?_) (fun w49 => ?_))
        · dsimp only [jpush]
          refine e_iadd 53 dX12_lifeOf_52 rfl ?_
          rw [← hd]
          refine e_istore (lsn := [(8, _), (0, _), (1, _), (2, _), (3, _), (4, _), (5, _), (6, _), (7, _)]) 55 dX12_lifeOf_53 (by decide) rfl rfl ?_
          refine e_iload 57 dX12_lifeOf_55 rfl rfl ?_
          refine e_iload 59 dX12_lifeOf_57 rfl rfl ?_
          refine e_icmp_lt 62 72 dX12_lifeOf_59 (by omega) (by omega) (by decide) rfl (fun b59 => ?_) (fun b59 => ?_)
          · skip
            refine e_iload 74 dX12_lifeOf_72 rfl rfl ?_
            refine e_iconst 75 dX12_lifeOf_74 rfl ?_
            refine e_aload_n (i := 0) 76 dX12_lifeOf_75 rfl rfl rfl ?_
            refine e_getr (j := 1) 79 fl_12_13 dX12_lifeOf_76 at_928 rfl rfl tp_928_1 rfl ?_
            refine e_sipush 82 dX12_lifeOf_79 (by decide) rfl ?_
            refine e_iload_n (i := 1) 83 dX12_lifeOf_82 rfl rfl rfl ?_
            refine e_iadd 84 dX12_lifeOf_83 rfl ?_
            refine e_iald 85 dX12_lifeOf_84 ar_929 (by omega) (by omega) rfl (fun r84 => ?_)
            refine e_aload_n (i := 0) 86 dX12_lifeOf_85 rfl rfl rfl ?_
            refine e_getr (j := 1) 89 fl_12_13 dX12_lifeOf_86 at_928 rfl rfl tp_928_1 rfl ?_
            refine e_sipush 92 dX12_lifeOf_89 (by decide) rfl ?_
            refine e_iload_n (i := 1) 93 dX12_lifeOf_92 rfl rfl rfl ?_
            refine e_iadd 94 dX12_lifeOf_93 rfl ?_
            refine e_iald 95 dX12_lifeOf_94 ar_929 (by omega) (by omega) rfl (fun r94 => ?_)
            refine e_isub 96 dX12_lifeOf_95 rfl ?_
            refine e_aload_n (i := 0) 97 dX12_lifeOf_96 rfl rfl rfl ?_
            refine e_getr (j := 1) 100 fl_12_13 dX12_lifeOf_97 at_928 rfl rfl tp_928_1 rfl ?_
            refine e_sipush 103 dX12_lifeOf_100 (by decide) rfl ?_
            refine e_iload_n (i := 1) 104 dX12_lifeOf_103 rfl rfl rfl ?_
            refine e_iadd 105 dX12_lifeOf_104 rfl ?_
            refine e_iald 106 dX12_lifeOf_105 ar_929 (by omega) (by omega) rfl (fun r105 => ?_)
            refine e_isub 107 dX12_lifeOf_106 rfl ?_
            refine e_imul 108 dX12_lifeOf_107 rfl ?_
            rw [hlf]
            refine e_iadd 109 dX12_lifeOf_108 rfl ?_
            refine e_w32 ?_
            refine e_istore (lsn := [(5, _), (8, _), (0, _), (1, _), (2, _), (3, _), (4, _), (6, _), (7, _)]) 111 dX12_lifeOf_109 (by decide) rfl rfl ?_
            refine e_iload 113 dX12_lifeOf_111 rfl rfl ?_
            refine e_iconst 114 dX12_lifeOf_113 rfl ?_
            refine e_icmp_ne 117 142 dX12_lifeOf_114 (by omega) (by decide) (by decide) rfl (fun b114 => ?_) (fun b114 => ?_)
            · skip
              refine e_iload 144 dX12_lifeOf_142 rfl rfl ?_
              refine e_if_ge 147 150 dX12_lifeOf_144 (by omega) (by decide) rfl (fun b144 => ?_) (fun b144 => ?_)
              · skip
                refine e_iinc (lsn := [(7, _), (5, _), (8, _), (0, _), (1, _), (2, _), (3, _), (4, _), (6, _)]) 153 dX12_lifeOf_150 rfl (by decide) rfl rfl ?_
                refine e_goto 23 dX12_lifeOf_153 (by decide) ?_
                refine e_ls (ls2 := [(0, _), (1, _), (2, _), (3, _), (4, _), (5, _), (6, _), (7, _)]) rfl ?_
                first
                  | (exfalso; omega)
                  | (rw [if_neg (by omega)] at h
                     rw [if_neg (by omega)] at h
                     rw [if_neg (by omega)] at h
                     exact ih _ _ _ (by omega) (by omega) (by omega) h)
              · skip
                refine e_iload 149 dX12_lifeOf_147 rfl rfl ?_
                refine e_iret dX12_lifeOf_149 ?_
                first
                  | (exfalso; omega)
                  | (rw [if_neg (by omega)] at h
                     rw [if_neg (by omega)] at h
                     rw [if_pos (by omega)] at h
                     exact h)
            · skip
              refine e_iload 119 dX12_lifeOf_117 rfl rfl ?_
              refine e_if_ge 122 142 dX12_lifeOf_119 (by omega) (by decide) rfl (fun b119 => ?_) (fun b119 => ?_)
              · skip
                refine e_iload 144 dX12_lifeOf_142 rfl rfl ?_
                refine e_if_ge 147 150 dX12_lifeOf_144 (by omega) (by decide) rfl (fun b144 => ?_) (fun b144 => ?_)
                · skip
                  refine e_iinc (lsn := [(7, _), (5, _), (8, _), (0, _), (1, _), (2, _), (3, _), (4, _), (6, _)]) 153 dX12_lifeOf_150 rfl (by decide) rfl rfl ?_
                  refine e_goto 23 dX12_lifeOf_153 (by decide) ?_
                  refine e_ls (ls2 := [(0, _), (1, _), (2, _), (3, _), (4, _), (5, _), (6, _), (7, _)]) rfl ?_
                  first
                    | (exfalso; omega)
                    | (rw [if_neg (by omega)] at h
                       rw [if_neg (by omega)] at h
                       rw [if_neg (by omega)] at h
                       exact ih _ _ _ (by omega) (by omega) (by omega) h)
                · skip
                  refine e_iload 149 dX12_lifeOf_147 rfl rfl ?_
                  refine e_iret dX12_lifeOf_149 ?_
                  first
                    | (exfalso; omega)
                    | (rw [if_neg (by omega)] at h
                       rw [if_neg (by omega)] at h
                       rw [if_pos (by omega)] at h
                       exact h)
              · skip
                refine e_iload 124 dX12_lifeOf_122 rfl rfl ?_
                refine e_iconst 125 dX12_lifeOf_124 rfl ?_
                refine e_iload_n (i := 2) 126 dX12_lifeOf_125 rfl rfl rfl ?_
                refine e_imul 127 dX12_lifeOf_126 rfl ?_
                refine e_aload_n (i := 0) 128 dX12_lifeOf_127 rfl rfl rfl ?_
                refine e_getr (j := 1) 131 fl_12_13 dX12_lifeOf_128 at_928 rfl rfl tp_928_1 rfl ?_
                refine e_bipush 133 dX12_lifeOf_131 (by decide) rfl ?_
                refine e_iald 134 dX12_lifeOf_133 ar_929 (by decide) (by decide) rfl (fun r133 => ?_)
                refine e_isub 135 dX12_lifeOf_134 rfl ?_
                rw [hgn]
                refine e_iadd 136 dX12_lifeOf_135 rfl ?_
                refine e_w32 ?_
                refine e_istore (lsn := [(5, _), (8, _), (0, _), (1, _), (2, _), (3, _), (4, _), (6, _), (7, _)]) 138 dX12_lifeOf_136 (by decide) rfl rfl ?_
                refine e_iload 140 dX12_lifeOf_138 rfl rfl ?_
                refine e_istore (lsn := [(6, _), (5, _), (8, _), (0, _), (1, _), (2, _), (3, _), (4, _), (7, _)]) 142 dX12_lifeOf_140 (by decide) rfl rfl ?_
                refine e_iload 144 dX12_lifeOf_142 rfl rfl ?_
                refine e_if_ge 147 150 dX12_lifeOf_144 (by omega) (by decide) rfl (fun b144 => ?_) (fun b144 => ?_)
                · skip
                  refine e_iinc (lsn := [(7, _), (6, _), (5, _), (8, _), (0, _), (1, _), (2, _), (3, _), (4, _)]) 153 dX12_lifeOf_150 rfl (by decide) rfl rfl ?_
                  refine e_goto 23 dX12_lifeOf_153 (by decide) ?_
                  refine e_ls (ls2 := [(0, _), (1, _), (2, _), (3, _), (4, _), (5, _), (6, _), (7, _)]) rfl ?_
                  first
                    | (exfalso; omega)
                    | (rw [if_neg (by omega)] at h
                       rw [if_pos (by omega)] at h
                       rw [if_neg (by omega)] at h
                       exact ih _ _ _ (by omega) (by omega) (by omega) h)
                · skip
                  refine e_iload 149 dX12_lifeOf_147 rfl rfl ?_
                  refine e_iret dX12_lifeOf_149 ?_
                  first
                    | (exfalso; omega)
                    | (rw [if_neg (by omega)] at h
                       rw [if_pos (by omega)] at h
                       rw [if_pos (by omega)] at h
                       exact h)
          · skip
            refine e_iload 64 dX12_lifeOf_62 rfl rfl ?_
            refine e_iload 66 dX12_lifeOf_64 rfl rfl ?_
            refine e_isub 67 dX12_lifeOf_66 rfl ?_
            refine e_w32 ?_
            refine e_istore (lsn := [(5, _), (8, _), (0, _), (1, _), (2, _), (3, _), (4, _), (6, _), (7, _)]) 69 dX12_lifeOf_67 (by decide) rfl rfl ?_
            refine e_iconst 70 dX12_lifeOf_69 rfl ?_
            refine e_istore (lsn := [(6, _), (5, _), (8, _), (0, _), (1, _), (2, _), (3, _), (4, _), (7, _)]) 72 dX12_lifeOf_70 (by decide) rfl rfl ?_
            refine e_iload 74 dX12_lifeOf_72 rfl rfl ?_
            refine e_iconst 75 dX12_lifeOf_74 rfl ?_
            refine e_aload_n (i := 0) 76 dX12_lifeOf_75 rfl rfl rfl ?_
            refine e_getr (j := 1) 79 fl_12_13 dX12_lifeOf_76 at_928 rfl rfl tp_928_1 rfl ?_
            refine e_sipush 82 dX12_lifeOf_79 (by decide) rfl ?_
            refine e_iload_n (i := 1) 83 dX12_lifeOf_82 rfl rfl rfl ?_
            refine e_iadd 84 dX12_lifeOf_83 rfl ?_
            refine e_iald 85 dX12_lifeOf_84 ar_929 (by omega) (by omega) rfl (fun r84 => ?_)
            refine e_aload_n (i := 0) 86 dX12_lifeOf_85 rfl rfl rfl ?_
            refine e_getr (j := 1) 89 fl_12_13 dX12_lifeOf_86 at_928 rfl rfl tp_928_1 rfl ?_
            refine e_sipush 92 dX12_lifeOf_89 (by decide) rfl ?_
            refine e_iload_n (i := 1) 93 dX12_lifeOf_92 rfl rfl rfl ?_
            refine e_iadd 94 dX12_lifeOf_93 rfl ?_
            refine e_iald 95 dX12_lifeOf_94 ar_929 (by omega) (by omega) rfl (fun r94 => ?_)
            refine e_isub 96 dX12_lifeOf_95 rfl ?_
            refine e_aload_n (i := 0) 97 dX12_lifeOf_96 rfl rfl rfl ?_
            refine e_getr (j := 1) 100 fl_12_13 dX12_lifeOf_97 at_928 rfl rfl tp_928_1 rfl ?_
            refine e_sipush 103 dX12_lifeOf_100 (by decide) rfl ?_
            refine e_iload_n (i := 1) 104 dX12_lifeOf_103 rfl rfl rfl ?_
            refine e_iadd 105 dX12_lifeOf_104 rfl ?_
            refine e_iald 106 dX12_lifeOf_105 ar_929 (by omega) (by omega) rfl (fun r105 => ?_)
            refine e_isub 107 dX12_lifeOf_106 rfl ?_
            refine e_imul 108 dX12_lifeOf_107 rfl ?_
            rw [hlf]
            refine e_iadd 109 dX12_lifeOf_108 rfl ?_
            refine e_w32 ?_
            refine e_istore (lsn := [(5, _), (6, _), (8, _), (0, _), (1, _), (2, _), (3, _), (4, _), (7, _)]) 111 dX12_lifeOf_109 (by decide) rfl rfl ?_
            refine e_iload 113 dX12_lifeOf_111 rfl rfl ?_
            refine e_iconst 114 dX12_lifeOf_113 rfl ?_
            refine e_icmp_ne 117 142 dX12_lifeOf_114 (by decide) (by decide) (by decide) rfl (fun h => absurd h (by decide)) (fun _ => ?_)
            refine e_iload 119 dX12_lifeOf_117 rfl rfl ?_
            refine e_if_ge 122 142 dX12_lifeOf_119 (by omega) (by decide) rfl (fun b119 => ?_) (fun b119 => ?_)
            · skip
              refine e_iload 144 dX12_lifeOf_142 rfl rfl ?_
              refine e_if_ge 147 150 dX12_lifeOf_144 (by omega) (by decide) rfl (fun b144 => ?_) (fun b144 => ?_)
              · skip
                refine e_iinc (lsn := [(7, _), (5, _), (6, _), (8, _), (0, _), (1, _), (2, _), (3, _), (4, _)]) 153 dX12_lifeOf_150 rfl (by decide) rfl rfl ?_
                refine e_goto 23 dX12_lifeOf_153 (by decide) ?_
                refine e_ls (ls2 := [(0, _), (1, _), (2, _), (3, _), (4, _), (5, _), (6, _), (7, _)]) rfl ?_
                first
                  | (exfalso; omega)
                  | (rw [if_pos (by omega)] at h
                     rw [if_neg (by omega)] at h
                     exact ih _ _ _ (by omega) (by omega) (by omega) h)
              · skip
                refine e_iload 149 dX12_lifeOf_147 rfl rfl ?_
                refine e_iret dX12_lifeOf_149 ?_
                first
                  | (exfalso; omega)
                  | (rw [if_pos (by omega)] at h
                     rw [if_neg (by omega)] at h
                     exact h)
            · skip
              refine e_iload 124 dX12_lifeOf_122 rfl rfl ?_
              refine e_iconst 125 dX12_lifeOf_124 rfl ?_
              refine e_iload_n (i := 2) 126 dX12_lifeOf_125 rfl rfl rfl ?_
              refine e_imul 127 dX12_lifeOf_126 rfl ?_
              refine e_aload_n (i := 0) 128 dX12_lifeOf_127 rfl rfl rfl ?_
              refine e_getr (j := 1) 131 fl_12_13 dX12_lifeOf_128 at_928 rfl rfl tp_928_1 rfl ?_
              refine e_bipush 133 dX12_lifeOf_131 (by decide) rfl ?_
              refine e_iald 134 dX12_lifeOf_133 ar_929 (by decide) (by decide) rfl (fun r133 => ?_)
              refine e_isub 135 dX12_lifeOf_134 rfl ?_
              rw [hgn]
              refine e_iadd 136 dX12_lifeOf_135 rfl ?_
              refine e_w32 ?_
              refine e_istore (lsn := [(5, _), (6, _), (8, _), (0, _), (1, _), (2, _), (3, _), (4, _), (7, _)]) 138 dX12_lifeOf_136 (by decide) rfl rfl ?_
              refine e_iload 140 dX12_lifeOf_138 rfl rfl ?_
              refine e_istore (lsn := [(6, _), (5, _), (8, _), (0, _), (1, _), (2, _), (3, _), (4, _), (7, _)]) 142 dX12_lifeOf_140 (by decide) rfl rfl ?_
              refine e_iload 144 dX12_lifeOf_142 rfl rfl ?_
              refine e_if_ge 147 150 dX12_lifeOf_144 (by omega) (by decide) rfl (fun b144 => ?_) (fun b144 => ?_)
              · skip
                refine e_iinc (lsn := [(7, _), (6, _), (5, _), (8, _), (0, _), (1, _), (2, _), (3, _), (4, _)]) 153 dX12_lifeOf_150 rfl (by decide) rfl rfl ?_
                refine e_goto 23 dX12_lifeOf_153 (by decide) ?_
                refine e_ls (ls2 := [(0, _), (1, _), (2, _), (3, _), (4, _), (5, _), (6, _), (7, _)]) rfl ?_
                first
                  | (exfalso; omega)
                  | (rw [if_pos (by omega)] at h
                     rw [if_pos (by omega)] at h
                     rw [if_neg (by omega)] at h
                     exact ih _ _ _ (by omega) (by omega) (by omega) h)
              · skip
                refine e_iload 149 dX12_lifeOf_147 rfl rfl ?_
                refine e_iret dX12_lifeOf_149 ?_
                first
                  | (exfalso; omega)
                  | (rw [if_pos (by omega)] at h
                     rw [if_pos (by omega)] at h
                     rw [if_pos (by omega)] at h
                     exact h)
        · omega

theorem m_lifeOf {q loan wk more : Int} {M : jM} {Q : Int → jM → Prop} (hC : CR M) (hq : 0 ≤ q ∧ q < M 929 643) (hl : 1 ≤ loan ∧ loan ≤ 999) (hwk : 0 ≤ wk ∧ wk ≤ 104) (hm : 0 ≤ more ∧ more ≤ 999) (hto : loan ≤ rTop (M 929) 0) (h : Q (rLifeOf (M 929) q loan wk more) M) : jCt yX12_lifeOf cX12_lifeOf 9 (some .int) 2 [jR 928, jI q, jI loan, jI wk, jI more] M Q := by
  refine jCt_of mt_yX12_lifeOf (Nat.le_of_ble_eq_true rfl) (fun X => ?_)
  have hn := hC.cnt
  have hg := hC.rng
  refine e_aload_n (i := 0) 1 dX12_lifeOf_0 rfl rfl rfl ?_
  refine e_getr (j := 1) 4 fl_12_13 dX12_lifeOf_1 at_928 rfl rfl tp_928_1 rfl ?_
  refine e_sipush 7 dX12_lifeOf_4 (by decide) rfl ?_
  refine e_iload_n (i := 1) 8 dX12_lifeOf_7 rfl rfl rfl ?_
  refine e_iadd 9 dX12_lifeOf_8 rfl ?_
  refine e_iald 10 dX12_lifeOf_9 ar_929 (by omega) (by omega) rfl (fun r9 => ?_)
  refine e_iconst 11 dX12_lifeOf_10 rfl ?_
  refine e_iload 13 dX12_lifeOf_11 rfl rfl ?_
  refine e_imul 14 dX12_lifeOf_13 rfl ?_
  refine e_iadd 15 dX12_lifeOf_14 rfl ?_
  refine e_w32 ?_
  refine e_istore (lsn := [(5, _), (0, _), (1, _), (2, _), (3, _), (4, _)]) 17 dX12_lifeOf_15 (by decide) rfl rfl ?_
  refine e_iconst 18 dX12_lifeOf_17 rfl ?_
  refine e_istore (lsn := [(6, _), (5, _), (0, _), (1, _), (2, _), (3, _), (4, _)]) 20 dX12_lifeOf_18 (by decide) rfl rfl ?_
  refine e_iconst 21 dX12_lifeOf_20 rfl ?_
  refine e_istore (lsn := [(7, _), (6, _), (5, _), (0, _), (1, _), (2, _), (3, _), (4, _)]) 23 dX12_lifeOf_21 (by decide) rfl rfl ?_
  refine e_ls (ls2 := [(0, _), (1, _), (2, _), (3, _), (4, _), (5, _), (6, _), (7, _)]) rfl ?_
  exact l_lifeOf hC hq hl hwk (fun x => rfl) rfl rfl hto wk.toNat 0 _ (-1) (by omega) (by omega) ⟨w32_in _, by omega, by omega⟩ h

theorem c_lifeRefused {q k loan wk more : Int} {M : jM} {Q : Int → jM → Prop} (hC : CR M) (hq : -2147483648 ≤ q ∧ q ≤ 2147483647) (hk : -2147483648 ≤ k ∧ k ≤ 2147483647) (hloan : -2147483648 ≤ loan ∧ loan ≤ 2147483647) (hwk : -2147483648 ≤ wk ∧ wk ≤ 2147483647) (hmore : -2147483648 ≤ more ∧ more ≤ 2147483647) (h2 : (q < 0 ∨ M 929 643 ≤ q ∨ k < 0 ∨ M 929 582 ≤ k) → Q (-2) M) (h3 : ((0 ≤ q ∧ q < M 929 643) ∧ 0 ≤ k ∧ k < M 929 582) ∧ (loan < 1 ∨ 999 < loan ∨ wk < 1 ∨ 104 < wk ∨ more < 0 ∨ 999 < more) → Q (-3) M) (h5 : ((0 ≤ q ∧ q < M 929 643) ∧ 0 ≤ k ∧ k < M 929 582) ∧ ((1 ≤ loan ∧ loan ≤ 999) ∧ (1 ≤ wk ∧ wk ≤ 104) ∧ 0 ≤ more ∧ more ≤ 999) ∧ rTop (M 929) 0 < loan → Q (-5) M) (h0 : ((0 ≤ q ∧ q < M 929 643) ∧ 0 ≤ k ∧ k < M 929 582) ∧ ((1 ≤ loan ∧ loan ≤ 999) ∧ (1 ≤ wk ∧ wk ≤ 104) ∧ 0 ≤ more ∧ more ≤ 999) ∧ loan ≤ rTop (M 929) 0 → Q 0 M) : jCt yX11_lifeRefused cX11_lifeRefused 6 (some .int) 3 [jR 0, jI q, jI k, jI loan, jI wk, jI more] M Q := by
  refine jCt_of mt_yX11_lifeRefused (Nat.le_of_ble_eq_true rfl) (fun X => ?_)
  have hn := hC.cnt
  have hg := hC.rng
  have htp := hC.lrel.top
  refine e_aload_n (i := 0) 1 dX11_lifeRefused_0 rfl rfl rfl ?_
  refine e_getr (j := 0) 4 fl_11_10 dX11_lifeRefused_1 at_0 rfl rfl tp_0_0 rfl ?_
  refine e_iload_n (i := 1) 5 dX11_lifeRefused_4 rfl rfl rfl ?_
  refine e_callV 8 mt_yX8_hasPerson mv_yX8_hasPerson wd_761 (by decide) dX11_lifeRefused_5 at_1 jc_8 rfl rfl rfl (Nat.le_of_ble_eq_true rfl) (jroom (by decide)) rfl (c_hasPerson (by omega) (fun w5 => ?_) (fun w5 => ?_))
  · dsimp only [jpush]
    refine e_if_eq 11 22 dX11_lifeRefused_8 (by decide) (by decide) rfl (fun h => absurd h (by decide)) (fun _ => ?_)
    refine e_aload_n (i := 0) 12 dX11_lifeRefused_11 rfl rfl rfl ?_
    refine e_getr (j := 0) 15 fl_11_10 dX11_lifeRefused_12 at_0 rfl rfl tp_0_0 rfl ?_
    refine e_iload_n (i := 2) 16 dX11_lifeRefused_15 rfl rfl rfl ?_
    refine e_callV 19 mt_yX8_hasKind mv_yX8_hasKind wd_903 (by decide) dX11_lifeRefused_16 at_1 jc_8 rfl rfl rfl (Nat.le_of_ble_eq_true rfl) (jroom (by decide)) rfl (c_hasKind (by omega) (fun w16 => ?_) (fun w16 => ?_))
    · dsimp only [jpush]
      refine e_if_ne 22 25 dX11_lifeRefused_19 (by decide) (by decide) rfl (fun _ => ?_) (fun h => absurd h (by decide))
      refine e_iload_n (i := 3) 26 dX11_lifeRefused_25 rfl rfl rfl ?_
      refine e_callS 29 mt_yX11_isLoan ms_yX11_isLoan wd_727 (by decide) dX11_lifeRefused_26 rfl rfl (Nat.le_of_ble_eq_true rfl) (jroom (by decide)) rfl (c_isLoan (by omega) (fun w26 => ?_) (fun w26 => ?_))
      · dsimp only [jpush]
        refine e_if_eq 32 42 dX11_lifeRefused_29 (by decide) (by decide) rfl (fun h => absurd h (by decide)) (fun _ => ?_)
        refine e_iload 34 dX11_lifeRefused_32 rfl rfl ?_
        refine e_iload 36 dX11_lifeRefused_34 rfl rfl ?_
        refine e_callS 39 mt_yX11_isLifeSpan ms_yX11_isLifeSpan wd_1017 (by decide) dX11_lifeRefused_36 rfl rfl (Nat.le_of_ble_eq_true rfl) (jroom (by decide)) rfl (c_isLifeSpan (by omega) (by omega) (fun w36 => ?_) (fun w36 => ?_))
        · dsimp only [jpush]
          refine e_if_ne 42 45 dX11_lifeRefused_39 (by decide) (by decide) rfl (fun _ => ?_) (fun h => absurd h (by decide))
          refine e_aload_n (i := 0) 46 dX11_lifeRefused_45 rfl rfl rfl ?_
          refine e_getr (j := 0) 49 fl_11_10 dX11_lifeRefused_46 at_0 rfl rfl tp_0_0 rfl ?_
          refine e_getr (j := 0) 52 fl_11_73 dX11_lifeRefused_49 at_1 rfl rfl tp_1_0 rfl ?_
          refine e_iload_n (i := 3) 53 dX11_lifeRefused_52 rfl rfl rfl ?_
          refine e_callV 56 mt_yX1_lends mv_yX1_lends wd_730 (by decide) dX11_lifeRefused_53 at_2 jc_1 rfl rfl rfl (Nat.le_of_ble_eq_true rfl) (jroom (by decide)) rfl (c_lends (by omega) lw_2 hC.lrel.ok (fun w53 => ?_) (fun w53 => ?_))
          · dsimp only [jpush]
            refine e_if_eq 59 63 dX11_lifeRefused_56 (by decide) (by decide) rfl (fun h => absurd h (by decide)) (fun _ => ?_)
            refine e_iconst 60 dX11_lifeRefused_59 rfl ?_
            refine e_goto 65 dX11_lifeRefused_60 (by decide) ?_
            refine e_iret dX11_lifeRefused_65 ?_
            first | exact h2 (by omega) | exact h3 (by omega) | exact h5 (by omega) | exact h0 (by omega)
          · dsimp only [jpush]
            refine e_if_eq 59 63 dX11_lifeRefused_56 (by decide) (by decide) rfl (fun _ => ?_) (fun h => absurd h (by decide))
            refine e_bipush 65 dX11_lifeRefused_63 (by decide) rfl ?_
            refine e_iret dX11_lifeRefused_65 ?_
            first | exact h2 (by omega) | exact h3 (by omega) | exact h5 (by omega) | exact h0 (by omega)
        · dsimp only [jpush]
          refine e_if_ne 42 45 dX11_lifeRefused_39 (by decide) (by decide) rfl (fun h => absurd h (by decide)) (fun _ => ?_)
          refine e_bipush 44 dX11_lifeRefused_42 (by decide) rfl ?_
          refine e_iret dX11_lifeRefused_44 ?_
          first | exact h2 (by omega) | exact h3 (by omega) | exact h5 (by omega) | exact h0 (by omega)
      · dsimp only [jpush]
        refine e_if_eq 32 42 dX11_lifeRefused_29 (by decide) (by decide) rfl (fun _ => ?_) (fun h => absurd h (by decide))
        refine e_bipush 44 dX11_lifeRefused_42 (by decide) rfl ?_
        refine e_iret dX11_lifeRefused_44 ?_
        first | exact h2 (by omega) | exact h3 (by omega) | exact h5 (by omega) | exact h0 (by omega)
    · dsimp only [jpush]
      refine e_if_ne 22 25 dX11_lifeRefused_19 (by decide) (by decide) rfl (fun h => absurd h (by decide)) (fun _ => ?_)
      refine e_bipush 24 dX11_lifeRefused_22 (by decide) rfl ?_
      refine e_iret dX11_lifeRefused_24 ?_
      first | exact h2 (by omega) | exact h3 (by omega) | exact h5 (by omega) | exact h0 (by omega)
  · dsimp only [jpush]
    refine e_if_eq 11 22 dX11_lifeRefused_8 (by decide) (by decide) rfl (fun _ => ?_) (fun h => absurd h (by decide))
    refine e_bipush 24 dX11_lifeRefused_22 (by decide) rfl ?_
    refine e_iret dX11_lifeRefused_24 ?_
    first | exact h2 (by omega) | exact h3 (by omega) | exact h5 (by omega) | exact h0 (by omega)

theorem m_refusesLife {q k loan wk more : Int} {M : jM} {Q : Int → jM → Prop} (hC : CR M) (hq : -2147483648 ≤ q ∧ q ≤ 2147483647) (hk : -2147483648 ≤ k ∧ k ≤ 2147483647) (hloan : -2147483648 ≤ loan ∧ loan ≤ 2147483647) (hwk : -2147483648 ≤ wk ∧ wk ≤ 2147483647) (hmore : -2147483648 ≤ more ∧ more ≤ 2147483647) (h2 : (q < 0 ∨ M 929 643 ≤ q ∨ k < 0 ∨ M 929 582 ≤ k) → Q (-2) M) (h3 : ((0 ≤ q ∧ q < M 929 643) ∧ 0 ≤ k ∧ k < M 929 582) ∧ (loan < 1 ∨ 999 < loan ∨ wk < 1 ∨ 104 < wk ∨ more < 0 ∨ 999 < more) → Q (-3) M) (h5 : ((0 ≤ q ∧ q < M 929 643) ∧ 0 ≤ k ∧ k < M 929 582) ∧ ((1 ≤ loan ∧ loan ≤ 999) ∧ (1 ≤ wk ∧ wk ≤ 104) ∧ 0 ≤ more ∧ more ≤ 999) ∧ rTop (M 929) 0 < loan → Q (-5) M) (h0 : ((0 ≤ q ∧ q < M 929 643) ∧ 0 ≤ k ∧ k < M 929 582) ∧ ((1 ≤ loan ∧ loan ≤ 999) ∧ (1 ≤ wk ∧ wk ≤ 104) ∧ 0 ≤ more ∧ more ≤ 999) ∧ loan ≤ rTop (M 929) 0 → Q 0 M) : jCt yX12_refusesLife cX12_refusesLife 6 (some .int) 2 [jR 928, jI q, jI k, jI loan, jI wk, jI more] M Q := by
  refine jCt_of mt_yX12_refusesLife (Nat.le_of_ble_eq_true rfl) (fun X => ?_)
  have hn := hC.cnt
  have hg := hC.rng
  refine e_aload_n (i := 0) 1 dX12_refusesLife_0 rfl rfl rfl ?_
  refine e_iload_n (i := 1) 2 dX12_refusesLife_1 rfl rfl rfl ?_
  refine e_callV 5 mt_yX12_isPerson mv_yX12_isPerson wd_1506 (by decide) dX12_refusesLife_2 at_928 jc_12 rfl rfl rfl (Nat.le_of_ble_eq_true rfl) (jroom (by decide)) rfl (m_isPerson (by omega) (fun w2 => ?_) (fun w2 => ?_))
  · dsimp only [jpush]
    refine e_if_eq 8 16 dX12_refusesLife_5 (by decide) (by decide) rfl (fun h => absurd h (by decide)) (fun _ => ?_)
    refine e_aload_n (i := 0) 9 dX12_refusesLife_8 rfl rfl rfl ?_
    refine e_iload_n (i := 2) 10 dX12_refusesLife_9 rfl rfl rfl ?_
    refine e_callV 13 mt_yX12_isKind mv_yX12_isKind wd_1619 (by decide) dX12_refusesLife_10 at_928 jc_12 rfl rfl rfl (Nat.le_of_ble_eq_true rfl) (jroom (by decide)) rfl (m_isKind (by omega) (fun w10 => ?_) (fun w10 => ?_))
    · dsimp only [jpush]
      refine e_if_ne 16 19 dX12_refusesLife_13 (by decide) (by decide) rfl (fun _ => ?_) (fun h => absurd h (by decide))
      refine e_iload_n (i := 3) 20 dX12_refusesLife_19 rfl rfl rfl ?_
      refine e_i2l 21 dX12_refusesLife_20 (by omega) rfl ?_
      refine e_lconst1 22 dX12_refusesLife_21 rfl ?_
      refine e_ldc2 (z := (999)) 25 (ix := 198) wd_1482 (by decide) dX12_refusesLife_22 rfl ?_
      refine e_callS 28 mt_yX12_within ms_yX12_within wd_1390 (by decide) dX12_refusesLife_25 rfl rfl (Nat.le_of_ble_eq_true rfl) (jroom (by decide)) rfl (m_within (by omega) (by omega) (by omega) (fun w25 => ?_) (fun w25 => ?_))
      · dsimp only [jpush]
        refine e_if_eq 31 57 dX12_refusesLife_28 (by decide) (by decide) rfl (fun h => absurd h (by decide)) (fun _ => ?_)
        refine e_iload 33 dX12_refusesLife_31 rfl rfl ?_
        refine e_i2l 34 dX12_refusesLife_33 (by omega) rfl ?_
        refine e_lconst1 35 dX12_refusesLife_34 rfl ?_
        refine e_ldc2 (z := (104)) 38 (ix := 304) wd_1679 (by decide) dX12_refusesLife_35 rfl ?_
        refine e_callS 41 mt_yX12_within ms_yX12_within wd_1390 (by decide) dX12_refusesLife_38 rfl rfl (Nat.le_of_ble_eq_true rfl) (jroom (by decide)) rfl (m_within (by omega) (by omega) (by omega) (fun w38 => ?_) (fun w38 => ?_))
        · dsimp only [jpush]
          refine e_if_eq 44 57 dX12_refusesLife_41 (by decide) (by decide) rfl (fun h => absurd h (by decide)) (fun _ => ?_)
          refine e_iload 46 dX12_refusesLife_44 rfl rfl ?_
          refine e_i2l 47 dX12_refusesLife_46 (by omega) rfl ?_
          refine e_lconst0 48 dX12_refusesLife_47 rfl ?_
          refine e_ldc2 (z := (999)) 51 (ix := 198) wd_1482 (by decide) dX12_refusesLife_48 rfl ?_
          refine e_callS 54 mt_yX12_within ms_yX12_within wd_1390 (by decide) dX12_refusesLife_51 rfl rfl (Nat.le_of_ble_eq_true rfl) (jroom (by decide)) rfl (m_within (by omega) (by omega) (by omega) (fun w51 => ?_) (fun w51 => ?_))
          · dsimp only [jpush]
            refine e_if_ne 57 60 dX12_refusesLife_54 (by decide) (by decide) rfl (fun _ => ?_) (fun h => absurd h (by decide))
            refine e_aload_n (i := 0) 61 dX12_refusesLife_60 rfl rfl rfl ?_
            refine e_iconst 62 dX12_refusesLife_61 rfl ?_
            refine e_iload_n (i := 3) 63 dX12_refusesLife_62 rfl rfl rfl ?_
            refine e_iconst 64 dX12_refusesLife_63 rfl ?_
            refine e_callV 67 mt_yX12_interestBy mv_yX12_interestBy wd_1487 (by decide) dX12_refusesLife_64 at_928 jc_12 rfl rfl rfl (Nat.le_of_ble_eq_true rfl) (jroom (by decide)) rfl (m_interestBy (by decide) (by omega) (by omega) hC.rlaw (fun w64 => ?_) (fun w64 => ?_))
            · dsimp only [jpush]
              (try have hcr := rChg_rng (loan := loan) (hv := 1) hC.rlaw (by omega) (by omega))
              refine e_iconst 68 dX12_refusesLife_67 rfl ?_
              refine e_icmp_ne 71 76 dX12_refusesLife_68 (by omega) (by decide) (by decide) rfl (fun b68 => ?_) (fun b68 => ?_)
              · skip
                refine e_iconst 77 dX12_refusesLife_76 rfl ?_
                refine e_iret dX12_refusesLife_77 ?_
                first | exact h2 (by omega) | exact h3 (by omega) | exact h5 (by omega) | exact h0 (by omega)
              · skip
                refine e_bipush 73 dX12_refusesLife_71 (by decide) rfl ?_
                refine e_goto 77 dX12_refusesLife_73 (by decide) ?_
                refine e_iret dX12_refusesLife_77 ?_
                first | exact h2 (by omega) | exact h3 (by omega) | exact h5 (by omega) | exact h0 (by omega)
            · dsimp only [jpush]
              (try have hcr := rChg_rng (loan := loan) (hv := 1) hC.rlaw (by omega) (by omega))
              refine e_iconst 68 dX12_refusesLife_67 rfl ?_
              refine e_icmp_ne 71 76 dX12_refusesLife_68 (by decide) (by decide) (by decide) rfl (fun h => absurd h (by decide)) (fun _ => ?_)
              refine e_bipush 73 dX12_refusesLife_71 (by decide) rfl ?_
              refine e_goto 77 dX12_refusesLife_73 (by decide) ?_
              refine e_iret dX12_refusesLife_77 ?_
              first | exact h2 (by omega) | exact h3 (by omega) | exact h5 (by omega) | exact h0 (by omega)
          · dsimp only [jpush]
            refine e_if_ne 57 60 dX12_refusesLife_54 (by decide) (by decide) rfl (fun h => absurd h (by decide)) (fun _ => ?_)
            refine e_bipush 59 dX12_refusesLife_57 (by decide) rfl ?_
            refine e_iret dX12_refusesLife_59 ?_
            first | exact h2 (by omega) | exact h3 (by omega) | exact h5 (by omega) | exact h0 (by omega)
        · dsimp only [jpush]
          refine e_if_eq 44 57 dX12_refusesLife_41 (by decide) (by decide) rfl (fun _ => ?_) (fun h => absurd h (by decide))
          refine e_bipush 59 dX12_refusesLife_57 (by decide) rfl ?_
          refine e_iret dX12_refusesLife_59 ?_
          first | exact h2 (by omega) | exact h3 (by omega) | exact h5 (by omega) | exact h0 (by omega)
      · dsimp only [jpush]
        refine e_if_eq 31 57 dX12_refusesLife_28 (by decide) (by decide) rfl (fun _ => ?_) (fun h => absurd h (by decide))
        refine e_bipush 59 dX12_refusesLife_57 (by decide) rfl ?_
        refine e_iret dX12_refusesLife_59 ?_
        first | exact h2 (by omega) | exact h3 (by omega) | exact h5 (by omega) | exact h0 (by omega)
    · dsimp only [jpush]
      refine e_if_ne 16 19 dX12_refusesLife_13 (by decide) (by decide) rfl (fun h => absurd h (by decide)) (fun _ => ?_)
      refine e_bipush 18 dX12_refusesLife_16 (by decide) rfl ?_
      refine e_iret dX12_refusesLife_18 ?_
      first | exact h2 (by omega) | exact h3 (by omega) | exact h5 (by omega) | exact h0 (by omega)
  · dsimp only [jpush]
    refine e_if_eq 8 16 dX12_refusesLife_5 (by decide) (by decide) rfl (fun _ => ?_) (fun h => absurd h (by decide))
    refine e_bipush 18 dX12_refusesLife_16 (by decide) rfl ?_
    refine e_iret dX12_refusesLife_18 ?_
    first | exact h2 (by omega) | exact h3 (by omega) | exact h5 (by omega) | exact h0 (by omega)

theorem p_life {M : jM} (hI : Inv M) {q : Int} (hq : -2147483648 ≤ q ∧ q ≤ 2147483647) {k : Int} (hk : -2147483648 ≤ k ∧ k ≤ 2147483647) {loan : Int} (hloan : -2147483648 ≤ loan ∧ loan ≤ 2147483647) {wk : Int} (hwk : -2147483648 ≤ wk ∧ wk ≤ 2147483647) {more : Int} (hmore : -2147483648 ≤ more ∧ more ≤ 2147483647) : jCt yX11_life cX11_life 7 (some .int) 4 [jR 0, jI q, jI k, jI loan, jI wk, jI more] M (fun z M1 => jCt yX12_life cX12_life 7 (some .int) 3 [jR 928, jI q, jI k, jI loan, jI wk, jI more] M1 (fun z2 M2 => z = z2 ∧ Inv M2)) := by
  have hC := hI.cr
  have hn := hC.cnt
  have hg := hC.rng
  refine jCt_of mt_yX11_life (Nat.le_of_ble_eq_true rfl) (fun X => ?_)
  refine e_aload_n (i := 0) 1 dX11_life_0 rfl rfl rfl ?_
  refine e_iload_n (i := 1) 2 dX11_life_1 rfl rfl rfl ?_
  refine e_iload_n (i := 2) 3 dX11_life_2 rfl rfl rfl ?_
  refine e_iload_n (i := 3) 4 dX11_life_3 rfl rfl rfl ?_
  refine e_iload 6 dX11_life_4 rfl rfl ?_
  refine e_iload 8 dX11_life_6 rfl rfl ?_
  refine e_callV 11 mt_yX11_lifeRefused mv_yX11_lifeRefused wd_1013 (by decide) dX11_life_8 at_0 jc_11 rfl rfl rfl (Nat.le_of_ble_eq_true rfl) (jroom (by decide)) rfl (c_lifeRefused hC (by omega) (by omega) (by omega) (by omega) (by omega) (fun w8 => ?_) (fun w8 => ?_) (fun w8 => ?_) (fun w8 => ?_))
  · dsimp only [jpush]
    refine e_istore (lsn := [(6, _), (0, _), (1, _), (2, _), (3, _), (4, _), (5, _)]) 13 dX11_life_11 (by decide) rfl rfl ?_
    refine e_iload 15 dX11_life_13 rfl rfl ?_
    refine e_if_eq 18 23 dX11_life_15 (by decide) (by decide) rfl (fun h => absurd h (by decide)) (fun _ => ?_)
    refine e_iload 20 dX11_life_18 rfl rfl ?_
    refine e_goto 36 dX11_life_20 (by decide) ?_
    refine e_iret dX11_life_36 ?_
    refine jCt_of mt_yX12_life (Nat.le_of_ble_eq_true rfl) (fun X2 => ?_)
    refine e_aload_n (i := 0) 1 dX12_life_0 rfl rfl rfl ?_
    refine e_iconst 2 dX12_life_1 rfl ?_
    refine e_put0 (j := 0) 5 fl_12_1 dX12_life_2 at_928 rfl rfl rfl (by decide) hI.1 rfl ?_
    refine e_aload_n (i := 0) 6 dX12_life_5 rfl rfl rfl ?_
    refine e_iload_n (i := 1) 7 dX12_life_6 rfl rfl rfl ?_
    refine e_iload_n (i := 2) 8 dX12_life_7 rfl rfl rfl ?_
    refine e_iload_n (i := 3) 9 dX12_life_8 rfl rfl rfl ?_
    refine e_iload 11 dX12_life_9 rfl rfl ?_
    refine e_iload 13 dX12_life_11 rfl rfl ?_
    refine e_callV 16 mt_yX12_refusesLife mv_yX12_refusesLife wd_1675 (by decide) dX12_life_13 at_928 jc_12 rfl rfl rfl (Nat.le_of_ble_eq_true rfl) (jroom (by decide)) rfl (m_refusesLife hC (by omega) (by omega) (by omega) (by omega) (by omega) (fun w13 => ?_) (fun w13 => ?_) (fun w13 => ?_) (fun w13 => ?_))
    · dsimp only [jpush]
      first
       | (exfalso; omega)
       | (skip
          refine e_istore (lsn := [(6, _), (0, _), (1, _), (2, _), (3, _), (4, _), (5, _)]) 18 dX12_life_16 (by decide) rfl rfl ?_
          refine e_iload 20 dX12_life_18 rfl rfl ?_
          refine e_if_eq 23 28 dX12_life_20 (by decide) (by decide) rfl (fun h => absurd h (by decide)) (fun _ => ?_)
          refine e_iload 25 dX12_life_23 rfl rfl ?_
          refine e_goto 38 dX12_life_25 (by decide) ?_
          refine e_iret dX12_life_38 ?_
          first
            | (exact ⟨by omega, hI⟩)
            | (exfalso; omega)
            | (exact ⟨rfl, hI⟩))
    · dsimp only [jpush]
      first
       | (exfalso; omega)
       | (skip
          refine e_istore (lsn := [(6, _), (0, _), (1, _), (2, _), (3, _), (4, _), (5, _)]) 18 dX12_life_16 (by decide) rfl rfl ?_
          refine e_iload 20 dX12_life_18 rfl rfl ?_
          refine e_if_eq 23 28 dX12_life_20 (by decide) (by decide) rfl (fun h => absurd h (by decide)) (fun _ => ?_)
          refine e_iload 25 dX12_life_23 rfl rfl ?_
          refine e_goto 38 dX12_life_25 (by decide) ?_
          refine e_iret dX12_life_38 ?_
          first
            | (exact ⟨by omega, hI⟩)
            | (exfalso; omega)
            | (exact ⟨rfl, hI⟩))
    · dsimp only [jpush]
      first
       | (exfalso; omega)
       | (skip
          refine e_istore (lsn := [(6, _), (0, _), (1, _), (2, _), (3, _), (4, _), (5, _)]) 18 dX12_life_16 (by decide) rfl rfl ?_
          refine e_iload 20 dX12_life_18 rfl rfl ?_
          refine e_if_eq 23 28 dX12_life_20 (by decide) (by decide) rfl (fun h => absurd h (by decide)) (fun _ => ?_)
          refine e_iload 25 dX12_life_23 rfl rfl ?_
          refine e_goto 38 dX12_life_25 (by decide) ?_
          refine e_iret dX12_life_38 ?_
          first
            | (exact ⟨by omega, hI⟩)
            | (exfalso; omega)
            | (exact ⟨rfl, hI⟩))
    · dsimp only [jpush]
      first
       | (exfalso; omega)
       | (skip
          refine e_istore (lsn := [(6, _), (0, _), (1, _), (2, _), (3, _), (4, _), (5, _)]) 18 dX12_life_16 (by decide) rfl rfl ?_
          refine e_iload 20 dX12_life_18 rfl rfl ?_
          refine e_if_eq 23 28 dX12_life_20 (by decide) (by decide) rfl (fun _ => ?_) (fun h => absurd h (by decide))
          refine e_aload_n (i := 0) 29 dX12_life_28 rfl rfl rfl ?_
          refine e_iload_n (i := 1) 30 dX12_life_29 rfl rfl rfl ?_
          refine e_iload_n (i := 3) 31 dX12_life_30 rfl rfl rfl ?_
          refine e_iload 33 dX12_life_31 rfl rfl ?_
          refine e_iload 35 dX12_life_33 rfl rfl ?_
          refine e_callV 38 mt_yX12_lifeOf mv_yX12_lifeOf wd_1680 (by decide) dX12_life_35 at_928 jc_12 rfl rfl rfl (Nat.le_of_ble_eq_true rfl) (jroom (by decide)) rfl (m_lifeOf hC (by omega) (by omega) (by omega) (by omega) (by omega) ?_)
          dsimp only [jpush]
          refine e_iret dX12_life_38 ?_
          first
            | (exact ⟨by omega, hI⟩)
            | (exfalso; omega)
            | (exact ⟨rfl, hI⟩))
  · dsimp only [jpush]
    refine e_istore (lsn := [(6, _), (0, _), (1, _), (2, _), (3, _), (4, _), (5, _)]) 13 dX11_life_11 (by decide) rfl rfl ?_
    refine e_iload 15 dX11_life_13 rfl rfl ?_
    refine e_if_eq 18 23 dX11_life_15 (by decide) (by decide) rfl (fun h => absurd h (by decide)) (fun _ => ?_)
    refine e_iload 20 dX11_life_18 rfl rfl ?_
    refine e_goto 36 dX11_life_20 (by decide) ?_
    refine e_iret dX11_life_36 ?_
    refine jCt_of mt_yX12_life (Nat.le_of_ble_eq_true rfl) (fun X2 => ?_)
    refine e_aload_n (i := 0) 1 dX12_life_0 rfl rfl rfl ?_
    refine e_iconst 2 dX12_life_1 rfl ?_
    refine e_put0 (j := 0) 5 fl_12_1 dX12_life_2 at_928 rfl rfl rfl (by decide) hI.1 rfl ?_
    refine e_aload_n (i := 0) 6 dX12_life_5 rfl rfl rfl ?_
    refine e_iload_n (i := 1) 7 dX12_life_6 rfl rfl rfl ?_
    refine e_iload_n (i := 2) 8 dX12_life_7 rfl rfl rfl ?_
    refine e_iload_n (i := 3) 9 dX12_life_8 rfl rfl rfl ?_
    refine e_iload 11 dX12_life_9 rfl rfl ?_
    refine e_iload 13 dX12_life_11 rfl rfl ?_
    refine e_callV 16 mt_yX12_refusesLife mv_yX12_refusesLife wd_1675 (by decide) dX12_life_13 at_928 jc_12 rfl rfl rfl (Nat.le_of_ble_eq_true rfl) (jroom (by decide)) rfl (m_refusesLife hC (by omega) (by omega) (by omega) (by omega) (by omega) (fun w13 => ?_) (fun w13 => ?_) (fun w13 => ?_) (fun w13 => ?_))
    · dsimp only [jpush]
      first
       | (exfalso; omega)
       | (skip
          refine e_istore (lsn := [(6, _), (0, _), (1, _), (2, _), (3, _), (4, _), (5, _)]) 18 dX12_life_16 (by decide) rfl rfl ?_
          refine e_iload 20 dX12_life_18 rfl rfl ?_
          refine e_if_eq 23 28 dX12_life_20 (by decide) (by decide) rfl (fun h => absurd h (by decide)) (fun _ => ?_)
          refine e_iload 25 dX12_life_23 rfl rfl ?_
          refine e_goto 38 dX12_life_25 (by decide) ?_
          refine e_iret dX12_life_38 ?_
          first
            | (exact ⟨by omega, hI⟩)
            | (exfalso; omega)
            | (exact ⟨rfl, hI⟩))
    · dsimp only [jpush]
      first
       | (exfalso; omega)
       | (skip
          refine e_istore (lsn := [(6, _), (0, _), (1, _), (2, _), (3, _), (4, _), (5, _)]) 18 dX12_life_16 (by decide) rfl rfl ?_
          refine e_iload 20 dX12_life_18 rfl rfl ?_
          refine e_if_eq 23 28 dX12_life_20 (by decide) (by decide) rfl (fun h => absurd h (by decide)) (fun _ => ?_)
          refine e_iload 25 dX12_life_23 rfl rfl ?_
          refine e_goto 38 dX12_life_25 (by decide) ?_
          refine e_iret dX12_life_38 ?_
          first
            | (exact ⟨by omega, hI⟩)
            | (exfalso; omega)
            | (exact ⟨rfl, hI⟩))
    · dsimp only [jpush]
      first
       | (exfalso; omega)
       | (skip
          refine e_istore (lsn := [(6, _), (0, _), (1, _), (2, _), (3, _), (4, _), (5, _)]) 18 dX12_life_16 (by decide) rfl rfl ?_
          refine e_iload 20 dX12_life_18 rfl rfl ?_
          refine e_if_eq 23 28 dX12_life_20 (by decide) (by decide) rfl (fun h => absurd h (by decide)) (fun _ => ?_)
          refine e_iload 25 dX12_life_23 rfl rfl ?_
          refine e_goto 38 dX12_life_25 (by decide) ?_
          refine e_iret dX12_life_38 ?_
          first
            | (exact ⟨by omega, hI⟩)
            | (exfalso; omega)
            | (exact ⟨rfl, hI⟩))
    · dsimp only [jpush]
      first
       | (exfalso; omega)
       | (skip
          refine e_istore (lsn := [(6, _), (0, _), (1, _), (2, _), (3, _), (4, _), (5, _)]) 18 dX12_life_16 (by decide) rfl rfl ?_
          refine e_iload 20 dX12_life_18 rfl rfl ?_
          refine e_if_eq 23 28 dX12_life_20 (by decide) (by decide) rfl (fun _ => ?_) (fun h => absurd h (by decide))
          refine e_aload_n (i := 0) 29 dX12_life_28 rfl rfl rfl ?_
          refine e_iload_n (i := 1) 30 dX12_life_29 rfl rfl rfl ?_
          refine e_iload_n (i := 3) 31 dX12_life_30 rfl rfl rfl ?_
          refine e_iload 33 dX12_life_31 rfl rfl ?_
          refine e_iload 35 dX12_life_33 rfl rfl ?_
          refine e_callV 38 mt_yX12_lifeOf mv_yX12_lifeOf wd_1680 (by decide) dX12_life_35 at_928 jc_12 rfl rfl rfl (Nat.le_of_ble_eq_true rfl) (jroom (by decide)) rfl (m_lifeOf hC (by omega) (by omega) (by omega) (by omega) (by omega) ?_)
          dsimp only [jpush]
          refine e_iret dX12_life_38 ?_
          first
            | (exact ⟨by omega, hI⟩)
            | (exfalso; omega)
            | (exact ⟨rfl, hI⟩))
  · dsimp only [jpush]
    refine e_istore (lsn := [(6, _), (0, _), (1, _), (2, _), (3, _), (4, _), (5, _)]) 13 dX11_life_11 (by decide) rfl rfl ?_
    refine e_iload 15 dX11_life_13 rfl rfl ?_
    refine e_if_eq 18 23 dX11_life_15 (by decide) (by decide) rfl (fun h => absurd h (by decide)) (fun _ => ?_)
    refine e_iload 20 dX11_life_18 rfl rfl ?_
    refine e_goto 36 dX11_life_20 (by decide) ?_
    refine e_iret dX11_life_36 ?_
    refine jCt_of mt_yX12_life (Nat.le_of_ble_eq_true rfl) (fun X2 => ?_)
    refine e_aload_n (i := 0) 1 dX12_life_0 rfl rfl rfl ?_
    refine e_iconst 2 dX12_life_1 rfl ?_
    refine e_put0 (j := 0) 5 fl_12_1 dX12_life_2 at_928 rfl rfl rfl (by decide) hI.1 rfl ?_
    refine e_aload_n (i := 0) 6 dX12_life_5 rfl rfl rfl ?_
    refine e_iload_n (i := 1) 7 dX12_life_6 rfl rfl rfl ?_
    refine e_iload_n (i := 2) 8 dX12_life_7 rfl rfl rfl ?_
    refine e_iload_n (i := 3) 9 dX12_life_8 rfl rfl rfl ?_
    refine e_iload 11 dX12_life_9 rfl rfl ?_
    refine e_iload 13 dX12_life_11 rfl rfl ?_
    refine e_callV 16 mt_yX12_refusesLife mv_yX12_refusesLife wd_1675 (by decide) dX12_life_13 at_928 jc_12 rfl rfl rfl (Nat.le_of_ble_eq_true rfl) (jroom (by decide)) rfl (m_refusesLife hC (by omega) (by omega) (by omega) (by omega) (by omega) (fun w13 => ?_) (fun w13 => ?_) (fun w13 => ?_) (fun w13 => ?_))
    · dsimp only [jpush]
      first
       | (exfalso; omega)
       | (skip
          refine e_istore (lsn := [(6, _), (0, _), (1, _), (2, _), (3, _), (4, _), (5, _)]) 18 dX12_life_16 (by decide) rfl rfl ?_
          refine e_iload 20 dX12_life_18 rfl rfl ?_
          refine e_if_eq 23 28 dX12_life_20 (by decide) (by decide) rfl (fun h => absurd h (by decide)) (fun _ => ?_)
          refine e_iload 25 dX12_life_23 rfl rfl ?_
          refine e_goto 38 dX12_life_25 (by decide) ?_
          refine e_iret dX12_life_38 ?_
          first
            | (exact ⟨by omega, hI⟩)
            | (exfalso; omega)
            | (exact ⟨rfl, hI⟩))
    · dsimp only [jpush]
      first
       | (exfalso; omega)
       | (skip
          refine e_istore (lsn := [(6, _), (0, _), (1, _), (2, _), (3, _), (4, _), (5, _)]) 18 dX12_life_16 (by decide) rfl rfl ?_
          refine e_iload 20 dX12_life_18 rfl rfl ?_
          refine e_if_eq 23 28 dX12_life_20 (by decide) (by decide) rfl (fun h => absurd h (by decide)) (fun _ => ?_)
          refine e_iload 25 dX12_life_23 rfl rfl ?_
          refine e_goto 38 dX12_life_25 (by decide) ?_
          refine e_iret dX12_life_38 ?_
          first
            | (exact ⟨by omega, hI⟩)
            | (exfalso; omega)
            | (exact ⟨rfl, hI⟩))
    · dsimp only [jpush]
      first
       | (exfalso; omega)
       | (skip
          refine e_istore (lsn := [(6, _), (0, _), (1, _), (2, _), (3, _), (4, _), (5, _)]) 18 dX12_life_16 (by decide) rfl rfl ?_
          refine e_iload 20 dX12_life_18 rfl rfl ?_
          refine e_if_eq 23 28 dX12_life_20 (by decide) (by decide) rfl (fun h => absurd h (by decide)) (fun _ => ?_)
          refine e_iload 25 dX12_life_23 rfl rfl ?_
          refine e_goto 38 dX12_life_25 (by decide) ?_
          refine e_iret dX12_life_38 ?_
          first
            | (exact ⟨by omega, hI⟩)
            | (exfalso; omega)
            | (exact ⟨rfl, hI⟩))
    · dsimp only [jpush]
      first
       | (exfalso; omega)
       | (skip
          refine e_istore (lsn := [(6, _), (0, _), (1, _), (2, _), (3, _), (4, _), (5, _)]) 18 dX12_life_16 (by decide) rfl rfl ?_
          refine e_iload 20 dX12_life_18 rfl rfl ?_
          refine e_if_eq 23 28 dX12_life_20 (by decide) (by decide) rfl (fun _ => ?_) (fun h => absurd h (by decide))
          refine e_aload_n (i := 0) 29 dX12_life_28 rfl rfl rfl ?_
          refine e_iload_n (i := 1) 30 dX12_life_29 rfl rfl rfl ?_
          refine e_iload_n (i := 3) 31 dX12_life_30 rfl rfl rfl ?_
          refine e_iload 33 dX12_life_31 rfl rfl ?_
          refine e_iload 35 dX12_life_33 rfl rfl ?_
          refine e_callV 38 mt_yX12_lifeOf mv_yX12_lifeOf wd_1680 (by decide) dX12_life_35 at_928 jc_12 rfl rfl rfl (Nat.le_of_ble_eq_true rfl) (jroom (by decide)) rfl (m_lifeOf hC (by omega) (by omega) (by omega) (by omega) (by omega) ?_)
          dsimp only [jpush]
          refine e_iret dX12_life_38 ?_
          first
            | (exact ⟨by omega, hI⟩)
            | (exfalso; omega)
            | (exact ⟨rfl, hI⟩))
  · dsimp only [jpush]
    refine e_istore (lsn := [(6, _), (0, _), (1, _), (2, _), (3, _), (4, _), (5, _)]) 13 dX11_life_11 (by decide) rfl rfl ?_
    refine e_iload 15 dX11_life_13 rfl rfl ?_
    refine e_if_eq 18 23 dX11_life_15 (by decide) (by decide) rfl (fun _ => ?_) (fun h => absurd h (by decide))
    refine e_aload_n (i := 0) 24 dX11_life_23 rfl rfl rfl ?_
    refine e_getr (j := 0) 27 fl_11_10 dX11_life_24 at_0 rfl rfl tp_0_0 rfl ?_
    refine e_iload_n (i := 1) 28 dX11_life_27 rfl rfl rfl ?_
    refine e_iload_n (i := 3) 29 dX11_life_28 rfl rfl rfl ?_
    refine e_iload 31 dX11_life_29 rfl rfl ?_
    refine e_iload 33 dX11_life_31 rfl rfl ?_
    refine e_callV 36 mt_yX8_sinkingWeek mv_yX8_sinkingWeek wd_1020 (by decide) dX11_life_33 at_1 jc_8 rfl rfl rfl (Nat.le_of_ble_eq_true rfl) (jroom (by decide)) rfl (c_sinking hC (by omega) (by omega) (by omega) (by omega) ?_)
    dsimp only [jpush]
    refine e_iret dX11_life_36 ?_
    refine jCt_of mt_yX12_life (Nat.le_of_ble_eq_true rfl) (fun X2 => ?_)
    refine e_aload_n (i := 0) 1 dX12_life_0 rfl rfl rfl ?_
    refine e_iconst 2 dX12_life_1 rfl ?_
    refine e_put0 (j := 0) 5 fl_12_1 dX12_life_2 at_928 rfl rfl rfl (by decide) hI.1 rfl ?_
    refine e_aload_n (i := 0) 6 dX12_life_5 rfl rfl rfl ?_
    refine e_iload_n (i := 1) 7 dX12_life_6 rfl rfl rfl ?_
    refine e_iload_n (i := 2) 8 dX12_life_7 rfl rfl rfl ?_
    refine e_iload_n (i := 3) 9 dX12_life_8 rfl rfl rfl ?_
    refine e_iload 11 dX12_life_9 rfl rfl ?_
    refine e_iload 13 dX12_life_11 rfl rfl ?_
    refine e_callV 16 mt_yX12_refusesLife mv_yX12_refusesLife wd_1675 (by decide) dX12_life_13 at_928 jc_12 rfl rfl rfl (Nat.le_of_ble_eq_true rfl) (jroom (by decide)) rfl (m_refusesLife hC (by omega) (by omega) (by omega) (by omega) (by omega) (fun w13 => ?_) (fun w13 => ?_) (fun w13 => ?_) (fun w13 => ?_))
    · dsimp only [jpush]
      first
       | (exfalso; omega)
       | (skip
          refine e_istore (lsn := [(6, _), (0, _), (1, _), (2, _), (3, _), (4, _), (5, _)]) 18 dX12_life_16 (by decide) rfl rfl ?_
          refine e_iload 20 dX12_life_18 rfl rfl ?_
          refine e_if_eq 23 28 dX12_life_20 (by decide) (by decide) rfl (fun h => absurd h (by decide)) (fun _ => ?_)
          refine e_iload 25 dX12_life_23 rfl rfl ?_
          refine e_goto 38 dX12_life_25 (by decide) ?_
          refine e_iret dX12_life_38 ?_
          first
            | (exact ⟨by omega, hI⟩)
            | (exfalso; omega)
            | (exact ⟨rfl, hI⟩))
    · dsimp only [jpush]
      first
       | (exfalso; omega)
       | (skip
          refine e_istore (lsn := [(6, _), (0, _), (1, _), (2, _), (3, _), (4, _), (5, _)]) 18 dX12_life_16 (by decide) rfl rfl ?_
          refine e_iload 20 dX12_life_18 rfl rfl ?_
          refine e_if_eq 23 28 dX12_life_20 (by decide) (by decide) rfl (fun h => absurd h (by decide)) (fun _ => ?_)
          refine e_iload 25 dX12_life_23 rfl rfl ?_
          refine e_goto 38 dX12_life_25 (by decide) ?_
          refine e_iret dX12_life_38 ?_
          first
            | (exact ⟨by omega, hI⟩)
            | (exfalso; omega)
            | (exact ⟨rfl, hI⟩))
    · dsimp only [jpush]
      first
       | (exfalso; omega)
       | (skip
          refine e_istore (lsn := [(6, _), (0, _), (1, _), (2, _), (3, _), (4, _), (5, _)]) 18 dX12_life_16 (by decide) rfl rfl ?_
          refine e_iload 20 dX12_life_18 rfl rfl ?_
          refine e_if_eq 23 28 dX12_life_20 (by decide) (by decide) rfl (fun h => absurd h (by decide)) (fun _ => ?_)
          refine e_iload 25 dX12_life_23 rfl rfl ?_
          refine e_goto 38 dX12_life_25 (by decide) ?_
          refine e_iret dX12_life_38 ?_
          first
            | (exact ⟨by omega, hI⟩)
            | (exfalso; omega)
            | (exact ⟨rfl, hI⟩))
    · dsimp only [jpush]
      first
       | (exfalso; omega)
       | (skip
          refine e_istore (lsn := [(6, _), (0, _), (1, _), (2, _), (3, _), (4, _), (5, _)]) 18 dX12_life_16 (by decide) rfl rfl ?_
          refine e_iload 20 dX12_life_18 rfl rfl ?_
          refine e_if_eq 23 28 dX12_life_20 (by decide) (by decide) rfl (fun _ => ?_) (fun h => absurd h (by decide))
          refine e_aload_n (i := 0) 29 dX12_life_28 rfl rfl rfl ?_
          refine e_iload_n (i := 1) 30 dX12_life_29 rfl rfl rfl ?_
          refine e_iload_n (i := 3) 31 dX12_life_30 rfl rfl rfl ?_
          refine e_iload 33 dX12_life_31 rfl rfl ?_
          refine e_iload 35 dX12_life_33 rfl rfl ?_
          refine e_callV 38 mt_yX12_lifeOf mv_yX12_lifeOf wd_1680 (by decide) dX12_life_35 at_928 jc_12 rfl rfl rfl (Nat.le_of_ble_eq_true rfl) (jroom (by decide)) rfl (m_lifeOf hC (by omega) (by omega) (by omega) (by omega) (by omega) ?_)
          dsimp only [jpush]
          refine e_iret dX12_life_38 ?_
          first
            | (exact ⟨by omega, hI⟩)
            | (exfalso; omega)
            | (exact ⟨rfl, hI⟩))

def rNeeds (a : Int → Int) (q loan wk : Int) : Nat → Int → Int
  | 0, _ => -1
  | n + 1, i => if rLifeOf a q loan wk i = -1 then i else rNeeds a q loan wk n (i + 1)
theorem rLifeOf_rng {a : Int → Int} {q loan wk more : Int} (h : 0 ≤ wk ∧ wk ≤ 104) : -1 ≤ rLifeOf a q loan wk more ∧ rLifeOf a q loan wk more ≤ 1000 := rLife_rng _ _ _ _ (by omega) (by omega)
theorem l_needs {X : jX} {q k loan wk : Int} {M : jM} {Q : Int → jM → Prop} (hC : CR M) (hq : 0 ≤ q ∧ q < M 929 643) (hl : 1 ≤ loan ∧ loan ≤ 999) (hwk : 1 ≤ wk ∧ wk ≤ 104) (hto : loan ≤ rTop (M 929) 0) : ∀ (n : Nat) (ii v : Int), 0 ≤ ii → ii + n = 1000 → Q (rNeeds (M 929) q loan wk n ii) M → jE X yX11_needs cX11_needs 7 (some .int) 4 Q M 23 [(0, jR 0), (1, jI q), (2, jI k), (3, jI loan), (4, jI wk), (5, jI v), (6, jI ii)] [] := by
  intro n
  induction n with
  | zero =>
    intro ii v h0 hi h
    have hrl := rLifeOf_rng (a := M 929) (q := q) (loan := loan) (wk := wk) (more := ii) (by omega)
    rw [rNeeds] at h
    refine e_iload 25 dX11_needs_23 rfl rfl ?_
    refine e_sipush 28 dX11_needs_25 (by decide) rfl ?_
    refine e_icmp_gt 31 57 dX11_needs_28 (by omega) (by decide) (by decide) rfl (fun b28 => ?_) (fun b28 => ?_)
    · skip
      refine e_iconst 58 dX11_needs_57 rfl ?_
      refine e_iret dX11_needs_58 ?_
      exact h
    · omega
  | succ n ih =>
    intro ii v h0 hi h
    have hrl := rLifeOf_rng (a := M 929) (q := q) (loan := loan) (wk := wk) (more := ii) (by omega)
    rw [rNeeds] at h
    refine e_iload 25 dX11_needs_23 rfl rfl ?_
    refine e_sipush 28 dX11_needs_25 (by decide) rfl ?_
    refine e_icmp_gt 31 57 dX11_needs_28 (by omega) (by decide) (by decide) rfl (fun b28 => ?_) (fun b28 => ?_)
    · omega
    · skip
      refine e_aload_n (i := 0) 32 dX11_needs_31 rfl rfl rfl ?_
      refine e_getr (j := 0) 35 fl_11_10 dX11_needs_32 at_0 rfl rfl tp_0_0 rfl ?_
      refine e_iload_n (i := 1) 36 dX11_needs_35 rfl rfl rfl ?_
      refine e_iload_n (i := 3) 37 dX11_needs_36 rfl rfl rfl ?_
      refine e_iload 39 dX11_needs_37 rfl rfl ?_
      refine e_iload 41 dX11_needs_39 rfl rfl ?_
      refine e_callV 44 mt_yX8_sinkingWeek mv_yX8_sinkingWeek wd_1020 (by decide) dX11_needs_41 at_1 jc_8 rfl rfl rfl (Nat.le_of_ble_eq_true rfl) (jroom (by decide)) rfl (c_sinking hC (by omega) (by omega) (by omega) (by omega) ?_)
      dsimp only [jpush]
      refine e_iconst 45 dX11_needs_44 rfl ?_
      refine e_icmp_ne 48 51 dX11_needs_45 (by omega) (by decide) (by decide) rfl (fun b45 => ?_) (fun b45 => ?_)
      · skip
        refine e_iinc (lsn := [(6, _), (0, _), (1, _), (2, _), (3, _), (4, _), (5, _)]) 54 dX11_needs_51 rfl (by decide) rfl rfl ?_
        refine e_goto 23 dX11_needs_54 (by decide) ?_
        refine e_ls (ls2 := [(0, _), (1, _), (2, _), (3, _), (4, _), (5, _), (6, _)]) rfl ?_
        rw [if_neg (by omega)] at h
        exact ih _ _ (by omega) (by omega) h
      · skip
        refine e_iload 50 dX11_needs_48 rfl rfl ?_
        refine e_iret dX11_needs_50 ?_
        rw [if_pos (by omega)] at h
        exact h

theorem lm_needs {X : jX} {q k loan wk : Int} {M : jM} {Q : Int → jM → Prop} (hC : CR M) (hq : 0 ≤ q ∧ q < M 929 643) (hl : 1 ≤ loan ∧ loan ≤ 999) (hwk : 1 ≤ wk ∧ wk ≤ 104) (hto : loan ≤ rTop (M 929) 0) : ∀ (n : Nat) (ii v : Int), 0 ≤ ii → ii + n = 1000 → Q (rNeeds (M 929) q loan wk n ii) M → jE X yX12_needs cX12_needs 7 (some .int) 3 Q M 28 [(0, jR 928), (1, jI q), (2, jI k), (3, jI loan), (4, jI wk), (5, jI v), (6, jI ii)] [] := by
  intro n
  induction n with
  | zero =>
    intro ii v h0 hi h
    have hrl := rLifeOf_rng (a := M 929) (q := q) (loan := loan) (wk := wk) (more := ii) (by omega)
    rw [rNeeds] at h
    refine e_iload 30 dX12_needs_28 rfl rfl ?_
    refine e_sipush 33 dX12_needs_30 (by decide) rfl ?_
    refine e_icmp_ge 36 59 dX12_needs_33 (by omega) (by decide) (by decide) rfl (fun b33 => ?_) (fun b33 => ?_)
    · skip
      refine e_iconst 60 dX12_needs_59 rfl ?_
      refine e_iret dX12_needs_60 ?_
      exact h
    · omega
  | succ n ih =>
    intro ii v h0 hi h
    have hrl := rLifeOf_rng (a := M 929) (q := q) (loan := loan) (wk := wk) (more := ii) (by omega)
    rw [rNeeds] at h
    refine e_iload 30 dX12_needs_28 rfl rfl ?_
    refine e_sipush 33 dX12_needs_30 (by decide) rfl ?_
    refine e_icmp_ge 36 59 dX12_needs_33 (by omega) (by decide) (by decide) rfl (fun b33 => ?_) (fun b33 => ?_)
    · omega
    · skip
      refine e_aload_n (i := 0) 37 dX12_needs_36 rfl rfl rfl ?_
      refine e_iload_n (i := 1) 38 dX12_needs_37 rfl rfl rfl ?_
      refine e_iload_n (i := 3) 39 dX12_needs_38 rfl rfl rfl ?_
      refine e_iload 41 dX12_needs_39 rfl rfl ?_
      refine e_iload 43 dX12_needs_41 rfl rfl ?_
      refine e_callV 46 mt_yX12_lifeOf mv_yX12_lifeOf wd_1680 (by decide) dX12_needs_43 at_928 jc_12 rfl rfl rfl (Nat.le_of_ble_eq_true rfl) (jroom (by decide)) rfl (m_lifeOf hC (by omega) (by omega) (by omega) (by omega) (by omega) ?_)
      dsimp only [jpush]
      refine e_iconst 47 dX12_needs_46 rfl ?_
      refine e_icmp_ne 50 53 dX12_needs_47 (by omega) (by decide) (by decide) rfl (fun b47 => ?_) (fun b47 => ?_)
      · skip
        refine e_iinc (lsn := [(6, _), (0, _), (1, _), (2, _), (3, _), (4, _), (5, _)]) 56 dX12_needs_53 rfl (by decide) rfl rfl ?_
        refine e_goto 28 dX12_needs_56 (by decide) ?_
        refine e_ls (ls2 := [(0, _), (1, _), (2, _), (3, _), (4, _), (5, _), (6, _)]) rfl ?_
        rw [if_neg (by omega)] at h
        exact ih _ _ (by omega) (by omega) h
      · skip
        refine e_iload 52 dX12_needs_50 rfl rfl ?_
        refine e_iret dX12_needs_52 ?_
        rw [if_pos (by omega)] at h
        exact h

theorem c_needs {q k loan wk : Int} {M : jM} {Q : Int → jM → Prop} (hC : CR M) (hq : -2147483648 ≤ q ∧ q ≤ 2147483647) (hk : -2147483648 ≤ k ∧ k ≤ 2147483647) (hloan : -2147483648 ≤ loan ∧ loan ≤ 2147483647) (hwk : -2147483648 ≤ wk ∧ wk ≤ 2147483647) (h2 : (q < 0 ∨ M 929 643 ≤ q ∨ k < 0 ∨ M 929 582 ≤ k) → Q (-2) M) (h3 : ((0 ≤ q ∧ q < M 929 643) ∧ 0 ≤ k ∧ k < M 929 582) ∧ (loan < 1 ∨ 999 < loan ∨ wk < 1 ∨ 104 < wk) → Q (-3) M) (h5 : ((0 ≤ q ∧ q < M 929 643) ∧ 0 ≤ k ∧ k < M 929 582) ∧ ((1 ≤ loan ∧ loan ≤ 999) ∧ (1 ≤ wk ∧ wk ≤ 104)) ∧ rTop (M 929) 0 < loan → Q (-5) M) (h0 : ((0 ≤ q ∧ q < M 929 643) ∧ 0 ≤ k ∧ k < M 929 582) ∧ ((1 ≤ loan ∧ loan ≤ 999) ∧ (1 ≤ wk ∧ wk ≤ 104)) ∧ loan ≤ rTop (M 929) 0 → Q (rNeeds (M 929) q loan wk 1000 0) M) : jCt yX11_needs cX11_needs 7 (some .int) 4 [jR 0, jI q, jI k, jI loan, jI wk] M Q := by
  refine jCt_of mt_yX11_needs (Nat.le_of_ble_eq_true rfl) (fun X => ?_)
  have hn := hC.cnt
  have hg := hC.rng
  refine e_aload_n (i := 0) 1 dX11_needs_0 rfl rfl rfl ?_
  refine e_iload_n (i := 1) 2 dX11_needs_1 rfl rfl rfl ?_
  refine e_iload_n (i := 2) 3 dX11_needs_2 rfl rfl rfl ?_
  refine e_iload_n (i := 3) 4 dX11_needs_3 rfl rfl rfl ?_
  refine e_iload 6 dX11_needs_4 rfl rfl ?_
  refine e_iconst 7 dX11_needs_6 rfl ?_
  refine e_callV 10 mt_yX11_lifeRefused mv_yX11_lifeRefused wd_1013 (by decide) dX11_needs_7 at_0 jc_11 rfl rfl rfl (Nat.le_of_ble_eq_true rfl) (jroom (by decide)) rfl (c_lifeRefused hC (by omega) (by omega) (by omega) (by omega) (by omega) (fun w7 => ?_) (fun w7 => ?_) (fun w7 => ?_) (fun w7 => ?_))
  · dsimp only [jpush]
    refine e_istore (lsn := [(5, _), (0, _), (1, _), (2, _), (3, _), (4, _)]) 12 dX11_needs_10 (by decide) rfl rfl ?_
    refine e_iload 14 dX11_needs_12 rfl rfl ?_
    refine e_if_eq 17 20 dX11_needs_14 (by decide) (by decide) rfl (fun h => absurd h (by decide)) (fun _ => ?_)
    refine e_iload 19 dX11_needs_17 rfl rfl ?_
    refine e_iret dX11_needs_19 ?_
    first | exact h2 (by omega) | exact h3 (by omega) | exact h5 (by omega)
  · dsimp only [jpush]
    refine e_istore (lsn := [(5, _), (0, _), (1, _), (2, _), (3, _), (4, _)]) 12 dX11_needs_10 (by decide) rfl rfl ?_
    refine e_iload 14 dX11_needs_12 rfl rfl ?_
    refine e_if_eq 17 20 dX11_needs_14 (by decide) (by decide) rfl (fun h => absurd h (by decide)) (fun _ => ?_)
    refine e_iload 19 dX11_needs_17 rfl rfl ?_
    refine e_iret dX11_needs_19 ?_
    first | exact h2 (by omega) | exact h3 (by omega) | exact h5 (by omega)
  · dsimp only [jpush]
    refine e_istore (lsn := [(5, _), (0, _), (1, _), (2, _), (3, _), (4, _)]) 12 dX11_needs_10 (by decide) rfl rfl ?_
    refine e_iload 14 dX11_needs_12 rfl rfl ?_
    refine e_if_eq 17 20 dX11_needs_14 (by decide) (by decide) rfl (fun h => absurd h (by decide)) (fun _ => ?_)
    refine e_iload 19 dX11_needs_17 rfl rfl ?_
    refine e_iret dX11_needs_19 ?_
    first | exact h2 (by omega) | exact h3 (by omega) | exact h5 (by omega)
  · dsimp only [jpush]
    refine e_istore (lsn := [(5, _), (0, _), (1, _), (2, _), (3, _), (4, _)]) 12 dX11_needs_10 (by decide) rfl rfl ?_
    refine e_iload 14 dX11_needs_12 rfl rfl ?_
    refine e_if_eq 17 20 dX11_needs_14 (by decide) (by decide) rfl (fun _ => ?_) (fun h => absurd h (by decide))
    refine e_iconst 21 dX11_needs_20 rfl ?_
    refine e_istore (lsn := [(6, _), (5, _), (0, _), (1, _), (2, _), (3, _), (4, _)]) 23 dX11_needs_21 (by decide) rfl rfl ?_
    refine e_ls (ls2 := [(0, _), (1, _), (2, _), (3, _), (4, _), (5, _), (6, _)]) rfl ?_
    exact l_needs hC (by omega) (by omega) (by omega) (by omega) 1000 0 _ (by omega) (by omega) (h0 (by omega))

theorem m_needs {q k loan wk : Int} {M : jM} {Q : Int → jM → Prop} (hC : CR M) (ht : M 928 0 = 0) (hq : -2147483648 ≤ q ∧ q ≤ 2147483647) (hk : -2147483648 ≤ k ∧ k ≤ 2147483647) (hloan : -2147483648 ≤ loan ∧ loan ≤ 2147483647) (hwk : -2147483648 ≤ wk ∧ wk ≤ 2147483647) (h2 : (q < 0 ∨ M 929 643 ≤ q ∨ k < 0 ∨ M 929 582 ≤ k) → Q (-2) M) (h3 : ((0 ≤ q ∧ q < M 929 643) ∧ 0 ≤ k ∧ k < M 929 582) ∧ (loan < 1 ∨ 999 < loan ∨ wk < 1 ∨ 104 < wk) → Q (-3) M) (h5 : ((0 ≤ q ∧ q < M 929 643) ∧ 0 ≤ k ∧ k < M 929 582) ∧ ((1 ≤ loan ∧ loan ≤ 999) ∧ (1 ≤ wk ∧ wk ≤ 104)) ∧ rTop (M 929) 0 < loan → Q (-5) M) (h0 : ((0 ≤ q ∧ q < M 929 643) ∧ 0 ≤ k ∧ k < M 929 582) ∧ ((1 ≤ loan ∧ loan ≤ 999) ∧ (1 ≤ wk ∧ wk ≤ 104)) ∧ loan ≤ rTop (M 929) 0 → Q (rNeeds (M 929) q loan wk 1000 0) M) : jCt yX12_needs cX12_needs 7 (some .int) 3 [jR 928, jI q, jI k, jI loan, jI wk] M Q := by
  refine jCt_of mt_yX12_needs (Nat.le_of_ble_eq_true rfl) (fun X => ?_)
  have hn := hC.cnt
  have hg := hC.rng
  refine e_aload_n (i := 0) 1 dX12_needs_0 rfl rfl rfl ?_
  refine e_iconst 2 dX12_needs_1 rfl ?_
  refine e_put0 (j := 0) 5 fl_12_1 dX12_needs_2 at_928 rfl rfl rfl (by decide) ht rfl ?_
  refine e_aload_n (i := 0) 6 dX12_needs_5 rfl rfl rfl ?_
  refine e_iload_n (i := 1) 7 dX12_needs_6 rfl rfl rfl ?_
  refine e_iload_n (i := 2) 8 dX12_needs_7 rfl rfl rfl ?_
  refine e_iload_n (i := 3) 9 dX12_needs_8 rfl rfl rfl ?_
  refine e_iload 11 dX12_needs_9 rfl rfl ?_
  refine e_iconst 12 dX12_needs_11 rfl ?_
  refine e_callV 15 mt_yX12_refusesLife mv_yX12_refusesLife wd_1675 (by decide) dX12_needs_12 at_928 jc_12 rfl rfl rfl (Nat.le_of_ble_eq_true rfl) (jroom (by decide)) rfl (m_refusesLife hC (by omega) (by omega) (by omega) (by omega) (by omega) (fun w12 => ?_) (fun w12 => ?_) (fun w12 => ?_) (fun w12 => ?_))
  · dsimp only [jpush]
    refine e_istore (lsn := [(5, _), (0, _), (1, _), (2, _), (3, _), (4, _)]) 17 dX12_needs_15 (by decide) rfl rfl ?_
    refine e_iload 19 dX12_needs_17 rfl rfl ?_
    refine e_if_eq 22 25 dX12_needs_19 (by decide) (by decide) rfl (fun h => absurd h (by decide)) (fun _ => ?_)
    refine e_iload 24 dX12_needs_22 rfl rfl ?_
    refine e_iret dX12_needs_24 ?_
    first | exact h2 (by omega) | exact h3 (by omega) | exact h5 (by omega)
  · dsimp only [jpush]
    refine e_istore (lsn := [(5, _), (0, _), (1, _), (2, _), (3, _), (4, _)]) 17 dX12_needs_15 (by decide) rfl rfl ?_
    refine e_iload 19 dX12_needs_17 rfl rfl ?_
    refine e_if_eq 22 25 dX12_needs_19 (by decide) (by decide) rfl (fun h => absurd h (by decide)) (fun _ => ?_)
    refine e_iload 24 dX12_needs_22 rfl rfl ?_
    refine e_iret dX12_needs_24 ?_
    first | exact h2 (by omega) | exact h3 (by omega) | exact h5 (by omega)
  · dsimp only [jpush]
    refine e_istore (lsn := [(5, _), (0, _), (1, _), (2, _), (3, _), (4, _)]) 17 dX12_needs_15 (by decide) rfl rfl ?_
    refine e_iload 19 dX12_needs_17 rfl rfl ?_
    refine e_if_eq 22 25 dX12_needs_19 (by decide) (by decide) rfl (fun h => absurd h (by decide)) (fun _ => ?_)
    refine e_iload 24 dX12_needs_22 rfl rfl ?_
    refine e_iret dX12_needs_24 ?_
    first | exact h2 (by omega) | exact h3 (by omega) | exact h5 (by omega)
  · dsimp only [jpush]
    refine e_istore (lsn := [(5, _), (0, _), (1, _), (2, _), (3, _), (4, _)]) 17 dX12_needs_15 (by decide) rfl rfl ?_
    refine e_iload 19 dX12_needs_17 rfl rfl ?_
    refine e_if_eq 22 25 dX12_needs_19 (by decide) (by decide) rfl (fun _ => ?_) (fun h => absurd h (by decide))
    refine e_iconst 26 dX12_needs_25 rfl ?_
    refine e_istore (lsn := [(6, _), (5, _), (0, _), (1, _), (2, _), (3, _), (4, _)]) 28 dX12_needs_26 (by decide) rfl rfl ?_
    refine e_ls (ls2 := [(0, _), (1, _), (2, _), (3, _), (4, _), (5, _), (6, _)]) rfl ?_
    exact lm_needs hC (by omega) (by omega) (by omega) (by omega) 1000 0 _ (by omega) (by omega) (h0 (by omega))

theorem p_needs {M : jM} (hI : Inv M) {q : Int} (hq : -2147483648 ≤ q ∧ q ≤ 2147483647) {k : Int} (hk : -2147483648 ≤ k ∧ k ≤ 2147483647) {loan : Int} (hloan : -2147483648 ≤ loan ∧ loan ≤ 2147483647) {wk : Int} (hwk : -2147483648 ≤ wk ∧ wk ≤ 2147483647) : jCt yX11_needs cX11_needs 7 (some .int) 4 [jR 0, jI q, jI k, jI loan, jI wk] M (fun z M1 => jCt yX12_needs cX12_needs 7 (some .int) 3 [jR 928, jI q, jI k, jI loan, jI wk] M1 (fun z2 M2 => z = z2 ∧ Inv M2)) := by
  have hC := hI.cr
  refine c_needs hC hq hk hloan hwk (fun w => ?_) (fun w => ?_) (fun w => ?_) (fun w => ?_)
  · refine m_needs hC hI.1 hq hk hloan hwk (fun w2 => ?_) (fun w2 => ?_) (fun w2 => ?_) (fun w2 => ?_) <;> first | exact ⟨rfl, hI⟩ | (exfalso; omega)
  · refine m_needs hC hI.1 hq hk hloan hwk (fun w2 => ?_) (fun w2 => ?_) (fun w2 => ?_) (fun w2 => ?_) <;> first | exact ⟨rfl, hI⟩ | (exfalso; omega)
  · refine m_needs hC hI.1 hq hk hloan hwk (fun w2 => ?_) (fun w2 => ?_) (fun w2 => ?_) (fun w2 => ?_) <;> first | exact ⟨rfl, hI⟩ | (exfalso; omega)
  · refine m_needs hC hI.1 hq hk hloan hwk (fun w2 => ?_) (fun w2 => ?_) (fun w2 => ?_) (fun w2 => ?_) <;> first | exact ⟨rfl, hI⟩ | (exfalso; omega)

