/-! BEST *** the reference: the next rack that may be *** -/
theorem lm_try {X : jX} {M Y : jM} {Q : Int → jM → Prop} (hC : CR M) (hS : Scr M Y) {row nn b sum at5 w : Int} (h5 : 0 ≤ at5 ∧ at5 < 7) (hw : 0 ≤ w ∧ w ≤ 99) (hb : -1 ≤ b ∧ b ≤ 100000) (hsum : 0 ≤ sum ∧ sum ≤ 100000) (hp : 0 ≤ Y 933 at5 ∧ Y 933 at5 < Y 929 709) {r0 : Int} (hq : ∀ r : Int, r0 ≤ r → r ≤ Y 929 1761 → (∀ v : Int, r0 ≤ v → v < r → Y 936 v < Y 929 (583 + Y 929 (710 + Y 933 at5)) ∨ (b ≠ -1 ∧ b ≤ sum + w * Y 929 (1772 + v))) → (r < Y 929 1761 → Y 929 (583 + Y 929 (710 + Y 933 at5)) ≤ Y 936 r ∧ (b = -1 ∨ sum + w * Y 929 (1772 + r) < b)) → jE X yX12_findsRacks cX12_findsRacks 9 (some .int) 3 Q Y 190 [(0, jR 928), (1, jI row), (2, jI nn), (3, jI b), (4, jI sum), (5, jI at5), (6, jI r), (7, jI w)] []) : ∀ (k : Nat) (rr : Int), 0 ≤ r0 → r0 ≤ rr → rr + k = Y 929 1761 → (∀ v : Int, r0 ≤ v → v < rr → Y 936 v < Y 929 (583 + Y 929 (710 + Y 933 at5)) ∨ (b ≠ -1 ∧ b ≤ sum + w * Y 929 (1772 + v))) → jE X yX12_findsRacks cX12_findsRacks 9 (some .int) 3 Q Y 124 [(0, jR 928), (1, jI row), (2, jI nn), (3, jI b), (4, jI sum), (5, jI at5), (6, jI rr), (7, jI w)] [] := by
  intro k
  induction k with
  | zero =>
    intro rr a0 a1 hr hU
    have hCY := hS.cr hC
    have e9 := hS.row
    have hn := hCY.cnt
    have hg := hCY.rng
    have e71 : Y 929 3895 = M 929 3895 := by rw [e9]
    have e72 : Y 929 709 = M 929 709 := by rw [e9]
    refine e_iload 126 dX12_findsRacks_124 rfl rfl ?_
    refine e_aload_n (i := 0) 127 dX12_findsRacks_126 rfl rfl rfl ?_
    refine e_getr (j := 1) 130 fl_12_13 dX12_findsRacks_127 at_928 rfl rfl tp_928_1 rfl ?_
    refine e_sipush 133 dX12_findsRacks_130 (by decide) rfl ?_
    refine e_iald 134 dX12_findsRacks_133 ar_929 (by decide) (by decide) rfl (fun r133 => ?_)
    refine e_icmp_ge 137 190 dX12_findsRacks_134 (by omega) (by omega) (by decide) rfl (fun b134 => ?_) (fun b134 => ?_)
    · skip
      exact hq rr a1 (by omega) hU (fun z => by omega)
    · omega
  | succ k ih =>
    intro rr a0 a1 hr hU
    have hCY := hS.cr hC
    have e9 := hS.row
    have hn := hCY.cnt
    have hg := hCY.rng
    have e71 : Y 929 3895 = M 929 3895 := by rw [e9]
    have e72 : Y 929 709 = M 929 709 := by rw [e9]
    have hpr := hCY.plr hp.1 hp.2
    have hkd := (hCY.kind hpr.1.1 hpr.1.2).2.1
    have hk := hCY.rk (r := rr) (by omega) (by omega)
    have hmul := mulB (a := w) (b := Y 929 (1772 + rr)) (A := 99) (B := 99) hw hk.2.2
    refine e_iload 126 dX12_findsRacks_124 rfl rfl ?_
    refine e_aload_n (i := 0) 127 dX12_findsRacks_126 rfl rfl rfl ?_
    refine e_getr (j := 1) 130 fl_12_13 dX12_findsRacks_127 at_928 rfl rfl tp_928_1 rfl ?_
    refine e_sipush 133 dX12_findsRacks_130 (by decide) rfl ?_
    refine e_iald 134 dX12_findsRacks_133 ar_929 (by decide) (by decide) rfl (fun r133 => ?_)
    refine e_icmp_ge 137 190 dX12_findsRacks_134 (by omega) (by omega) (by decide) rfl (fun b134 => ?_) (fun b134 => ?_)
    · omega
    · skip
      refine e_aload_n (i := 0) 138 dX12_findsRacks_137 rfl rfl rfl ?_
      refine e_getr (j := 21) 141 fl_12_39 dX12_findsRacks_138 at_928 rfl rfl tp_928_21 rfl ?_
      refine e_iload 143 dX12_findsRacks_141 rfl rfl ?_
      refine e_iald 144 dX12_findsRacks_143 ar_936 (by omega) (by omega) rfl (fun r143 => ?_)
      refine e_aload_n (i := 0) 145 dX12_findsRacks_144 rfl rfl rfl ?_
      refine e_aload_n (i := 0) 146 dX12_findsRacks_145 rfl rfl rfl ?_
      refine e_getr (j := 18) 149 fl_12_30 dX12_findsRacks_146 at_928 rfl rfl tp_928_18 rfl ?_
      refine e_iload 151 dX12_findsRacks_149 rfl rfl ?_
      refine e_iald 152 dX12_findsRacks_151 ar_933 (by omega) (by omega) rfl (fun r151 => ?_)
      refine e_callV 155 mt_yX12_sizeOf mv_yX12_sizeOf wd_1649 (by decide) dX12_findsRacks_152 at_928 jc_12 rfl rfl rfl (Nat.le_of_ble_eq_true rfl) (jroom (by decide)) rfl (m_sizeOf (by omega) (by omega) ?_)
      dsimp only [jpush]
      refine e_icmp_lt 158 184 dX12_findsRacks_155 (by omega) (by omega) (by decide) rfl (fun b155 => ?_) (fun b155 => ?_)
      · skip
        refine e_iinc (lsn := [(6, _), (0, _), (1, _), (2, _), (3, _), (4, _), (5, _), (7, _)]) 187 dX12_findsRacks_184 rfl (by decide) rfl rfl ?_
        refine e_goto 124 dX12_findsRacks_187 (by decide) ?_
        refine e_ls (ls2 := [(0, _), (1, _), (2, _), (3, _), (4, _), (5, _), (6, _), (7, _)]) rfl ?_
        refine ih (rr + 1) a0 (by omega) (by omega) (fun v p q => ?_)
        by_cases e : v = rr
        · rw [e]
          omega
        · exact hU v p (by omega)
      · skip
        refine e_iload_n (i := 3) 159 dX12_findsRacks_158 rfl rfl rfl ?_
        refine e_iconst 160 dX12_findsRacks_159 rfl ?_
        refine e_icmp_eq 163 190 dX12_findsRacks_160 (by omega) (by decide) (by decide) rfl (fun b160 => ?_) (fun b160 => ?_)
        · skip
          exact hq rr a1 (by omega) hU (fun _ => by omega)
        · skip
          refine e_iload 165 dX12_findsRacks_163 rfl rfl ?_
          refine e_iload 167 dX12_findsRacks_165 rfl rfl ?_
          refine e_aload_n (i := 0) 168 dX12_findsRacks_167 rfl rfl rfl ?_
          refine e_getr (j := 1) 171 fl_12_13 dX12_findsRacks_168 at_928 rfl rfl tp_928_1 rfl ?_
          refine e_sipush 174 dX12_findsRacks_171 (by decide) rfl ?_
          refine e_iload 176 dX12_findsRacks_174 rfl rfl ?_
          refine e_iadd 177 dX12_findsRacks_176 rfl ?_
          refine e_iald 178 dX12_findsRacks_177 ar_929 (by omega) (by omega) rfl (fun r177 => ?_)
          refine e_imul 179 dX12_findsRacks_178 rfl ?_
          refine e_iadd 180 dX12_findsRacks_179 rfl ?_
          refine e_iload_n (i := 3) 181 dX12_findsRacks_180 rfl rfl rfl ?_
          refine e_icmp_lt 184 190 dX12_findsRacks_181 (by omega) (by omega) (by decide) rfl (fun b181 => ?_) (fun b181 => ?_)
          · skip
            exact hq rr a1 (by omega) hU (fun _ => by omega)
          · skip
            refine e_iinc (lsn := [(6, _), (0, _), (1, _), (2, _), (3, _), (4, _), (5, _), (7, _)]) 187 dX12_findsRacks_184 rfl (by decide) rfl rfl ?_
            refine e_goto 124 dX12_findsRacks_187 (by decide) ?_
            refine e_ls (ls2 := [(0, _), (1, _), (2, _), (3, _), (4, _), (5, _), (6, _), (7, _)]) rfl ?_
            refine ih (rr + 1) a0 (by omega) (by omega) (fun v p q => ?_)
            by_cases e : v = rr
            · rw [e]
              omega
            · exact hU v p (by omega)

