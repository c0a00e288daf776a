/-! PAIRS: count -/
theorem p_count {M : jM} (hI : Inv M) {what : Int} (hwhat : -2147483648 ≤ what ∧ what ≤ 2147483647) : jCt yX11_count cX11_count 2 (some .int) 2 [jR 0, jI what] M (fun z M1 => jCt yX12_count cX12_count 2 (some .int) 3 [jR 928, jI what] M1 (fun z2 M2 => z = z2 ∧ Inv M2)) := by
  have hC := hI.cr
  have hn := hC.cnt
  have hg := hC.rng
  have hlaw := hC.law.2.1
  have hlk := hC.look
  have htp := hI.2.2.2.1.1
  refine jCt_of mt_yX11_count (Nat.le_of_ble_eq_true rfl) (fun X => ?_)
  refine e_iload_n (i := 1) 1 dX11_count_0 rfl rfl rfl ?_
  refine e_tsw 169 dX11_count_1 (by omega) (by decide) (fun c0 hc0 hz0 => ?_) (fun b1 => ?_)
  · have hcc : c0 = 0 ∨ c0 = 1 ∨ c0 = 2 ∨ c0 = 3 ∨ c0 = 4 ∨ c0 = 5 ∨ c0 = 6 ∨ c0 = 7 ∨ c0 = 8 ∨ c0 = 9 ∨ c0 = 10 ∨ c0 = 11 := by omega
    rcases hcc with b1 | b1 | b1 | b1 | b1 | b1 | b1 | b1 | b1 | b1 | b1 | b1
    · subst b1
      refine ⟨_, 64, rfl, by decide, ?_⟩
      refine e_aload_n (i := 0) 65 dX11_count_64 rfl rfl rfl ?_
      refine e_getr (j := 0) 68 fl_11_10 dX11_count_65 at_0 rfl rfl tp_0_0 rfl ?_
      refine e_geti (j := 6) 71 fl_11_122 dX11_count_68 at_1 (by decide) rfl rfl (fun r68 => ?_)
      refine e_iret dX11_count_71 ?_
      refine jCt_of mt_yX12_count (Nat.le_of_ble_eq_true rfl) (fun X2 => ?_)
      refine e_aload_n (i := 0) 1 dX12_count_0 rfl rfl rfl ?_
      refine e_iconst 2 dX12_count_1 rfl ?_
      refine e_put0 (j := 0) 5 fl_12_1 dX12_count_2 at_928 rfl rfl rfl (by decide) hI.1 rfl ?_
      refine e_iload_n (i := 1) 6 dX12_count_5 rfl rfl rfl ?_
      refine e_i2l 7 dX12_count_6 (by omega) rfl ?_
      refine e_ldc2 (z := (20)) 10 (ix := 363) wd_1833 (by decide) dX12_count_7 rfl ?_
      refine e_bipush 12 dX12_count_10 (by decide) rfl ?_
      refine e_aload_n (i := 0) 13 dX12_count_12 rfl rfl rfl ?_
      refine e_getr (j := 1) 16 fl_12_13 dX12_count_13 at_928 rfl rfl tp_928_1 rfl ?_
      refine e_sipush 19 dX12_count_16 (by decide) rfl ?_
      refine e_iald 20 dX12_count_19 ar_929 (by decide) (by decide) rfl (fun r19 => ?_)
      refine e_iadd 21 dX12_count_20 rfl ?_
      refine e_i2l 22 dX12_count_21 (by omega) rfl ?_
      refine e_callS 25 mt_yX12_within ms_yX12_within wd_1390 (by decide) dX12_count_22 rfl rfl (Nat.le_of_ble_eq_true rfl) (jroom (by decide)) rfl (m_within (by omega) (by omega) (by omega) (fun w22 => ?_) (fun w22 => ?_))
      · dsimp only [jpush]
        first
         | (exfalso; omega)
         | (skip
            refine e_if_eq 28 37 dX12_count_25 (by decide) (by decide) rfl (fun h => absurd h (by decide)) (fun _ => ?_)
            refine e_aload_n (i := 0) 29 dX12_count_28 rfl rfl rfl ?_
            refine e_iload_n (i := 1) 30 dX12_count_29 rfl rfl rfl ?_
            refine e_bipush 32 dX12_count_30 (by decide) rfl ?_
            refine e_isub 33 dX12_count_32 rfl ?_
            refine e_callV 36 mt_yX12_leftOn mv_yX12_leftOn wd_1645 (by decide) dX12_count_33 at_928 jc_12 rfl rfl rfl (Nat.le_of_ble_eq_true rfl) (jroom (by decide)) rfl (m_leftOn hI.2.1 (by omega) ?_)
            dsimp only [jpush]
            refine e_iret dX12_count_36 ?_
            first
              | (exact ⟨by omega, hI⟩)
              | (exfalso; omega)
              | (exact ⟨rfl, hI⟩))
      · dsimp only [jpush]
        first
         | (exfalso; omega)
         | (skip
            refine e_if_eq 28 37 dX12_count_25 (by decide) (by decide) rfl (fun _ => ?_) (fun h => absurd h (by decide))
            refine e_iload_n (i := 1) 38 dX12_count_37 rfl rfl rfl ?_
            refine e_tsw 198 dX12_count_38 (by omega) (by decide) (fun c0 hc0 hz0 => ?_) (fun b38 => ?_)
            · have hcc : c0 = 0 ∨ c0 = 1 ∨ c0 = 2 ∨ c0 = 3 ∨ c0 = 4 ∨ c0 = 5 ∨ c0 = 6 ∨ c0 = 7 ∨ c0 = 8 ∨ c0 = 9 ∨ c0 = 10 ∨ c0 = 11 := by omega
              rcases hcc with b38 | b38 | b38 | b38 | b38 | b38 | b38 | b38 | b38 | b38 | b38 | b38
              · subst b38
                refine ⟨_, 100, rfl, by decide, ?_⟩
                first
                 | (exfalso; omega)
                 | (skip
                    refine e_aload_n (i := 0) 101 dX12_count_100 rfl rfl rfl ?_
                    refine e_getr (j := 1) 104 fl_12_13 dX12_count_101 at_928 rfl rfl tp_928_1 rfl ?_
                    refine e_sipush 107 dX12_count_104 (by decide) rfl ?_
                    refine e_iald 108 dX12_count_107 ar_929 (by decide) (by decide) rfl (fun r107 => ?_)
                    refine e_iret dX12_count_108 ?_
                    first
                      | (exact ⟨by omega, hI⟩)
                      | (exfalso; omega)
                      | (exact ⟨rfl, hI⟩))
              · subst b38
                refine ⟨_, 109, rfl, by decide, ?_⟩
                first
                 | (exfalso; omega)
                 | (skip
                    refine e_aload_n (i := 0) 110 dX12_count_109 rfl rfl rfl ?_
                    refine e_getr (j := 1) 113 fl_12_13 dX12_count_110 at_928 rfl rfl tp_928_1 rfl ?_
                    refine e_sipush 116 dX12_count_113 (by decide) rfl ?_
                    refine e_iald 117 dX12_count_116 ar_929 (by decide) (by decide) rfl (fun r116 => ?_)
                    refine e_iret dX12_count_117 ?_
                    first
                      | (exact ⟨by omega, hI⟩)
                      | (exfalso; omega)
                      | (exact ⟨rfl, hI⟩))
              · subst b38
                refine ⟨_, 118, rfl, by decide, ?_⟩
                first
                 | (exfalso; omega)
                 | (skip
                    refine e_aload_n (i := 0) 119 dX12_count_118 rfl rfl rfl ?_
                    refine e_getr (j := 1) 122 fl_12_13 dX12_count_119 at_928 rfl rfl tp_928_1 rfl ?_
                    refine e_sipush 125 dX12_count_122 (by decide) rfl ?_
                    refine e_iald 126 dX12_count_125 ar_929 (by decide) (by decide) rfl (fun r125 => ?_)
                    refine e_iret dX12_count_126 ?_
                    first
                      | (exact ⟨by omega, hI⟩)
                      | (exfalso; omega)
                      | (exact ⟨rfl, hI⟩))
              · subst b38
                refine ⟨_, 127, rfl, by decide, ?_⟩
                first
                 | (exfalso; omega)
                 | (skip
                    refine e_aload_n (i := 0) 128 dX12_count_127 rfl rfl rfl ?_
                    refine e_getr (j := 1) 131 fl_12_13 dX12_count_128 at_928 rfl rfl tp_928_1 rfl ?_
                    refine e_sipush 134 dX12_count_131 (by decide) rfl ?_
                    refine e_iald 135 dX12_count_134 ar_929 (by decide) (by decide) rfl (fun r134 => ?_)
                    refine e_iret dX12_count_135 ?_
                    first
                      | (exact ⟨by omega, hI⟩)
                      | (exfalso; omega)
                      | (exact ⟨rfl, hI⟩))
              · subst b38
                refine ⟨_, 136, rfl, by decide, ?_⟩
                first
                 | (exfalso; omega)
                 | (skip
                    refine e_aload_n (i := 0) 137 dX12_count_136 rfl rfl rfl ?_
                    refine e_getr (j := 1) 140 fl_12_13 dX12_count_137 at_928 rfl rfl tp_928_1 rfl ?_
                    refine e_sipush 143 dX12_count_140 (by decide) rfl ?_
                    refine e_iald 144 dX12_count_143 ar_929 (by decide) (by decide) rfl (fun r143 => ?_)
                    refine e_iret dX12_count_144 ?_
                    first
                      | (exact ⟨by omega, hI⟩)
                      | (exfalso; omega)
                      | (exact ⟨rfl, hI⟩))
              · subst b38
                refine ⟨_, 145, rfl, by decide, ?_⟩
                first
                 | (exfalso; omega)
                 | (skip
                    refine e_aload_n (i := 0) 146 dX12_count_145 rfl rfl rfl ?_
                    refine e_getr (j := 1) 149 fl_12_13 dX12_count_146 at_928 rfl rfl tp_928_1 rfl ?_
                    refine e_bipush 151 dX12_count_149 (by decide) rfl ?_
                    refine e_iald 152 dX12_count_151 ar_929 (by decide) (by decide) rfl (fun r151 => ?_)
                    refine e_iret dX12_count_152 ?_
                    first
                      | (exact ⟨by omega, hI⟩)
                      | (exfalso; omega)
                      | (exact ⟨rfl, hI⟩))
              · subst b38
                refine ⟨_, 153, rfl, by decide, ?_⟩
                first
                 | (exfalso; omega)
                 | (skip
                    refine e_aload_n (i := 0) 154 dX12_count_153 rfl rfl rfl ?_
                    refine e_getr (j := 1) 157 fl_12_13 dX12_count_154 at_928 rfl rfl tp_928_1 rfl ?_
                    refine e_bipush 159 dX12_count_157 (by decide) rfl ?_
                    refine e_iald 160 dX12_count_159 ar_929 (by decide) (by decide) rfl (fun r159 => ?_)
                    refine e_iret dX12_count_160 ?_
                    first
                      | (exact ⟨by omega, hI⟩)
                      | (exfalso; omega)
                      | (exact ⟨rfl, hI⟩))
              · subst b38
                refine ⟨_, 161, rfl, by decide, ?_⟩
                first
                 | (exfalso; omega)
                 | (skip
                    refine e_aload_n (i := 0) 162 dX12_count_161 rfl rfl rfl ?_
                    refine e_geti (j := 5) 165 fl_12_79 dX12_count_162 at_928 (by decide) rfl rfl (fun r162 => ?_)
                    refine e_iret dX12_count_165 ?_
                    first
                      | (exact ⟨by omega, hI⟩)
                      | (exfalso; omega)
                      | (exact ⟨rfl, hI⟩))
              · subst b38
                refine ⟨_, 166, rfl, by decide, ?_⟩
                first
                 | (exfalso; omega)
                 | (skip
                    refine e_aload_n (i := 0) 167 dX12_count_166 rfl rfl rfl ?_
                    refine e_getr (j := 1) 170 fl_12_13 dX12_count_167 at_928 rfl rfl tp_928_1 rfl ?_
                    refine e_sipush 173 dX12_count_170 (by decide) rfl ?_
                    refine e_iald 174 dX12_count_173 ar_929 (by decide) (by decide) rfl (fun r173 => ?_)
                    refine e_iret dX12_count_174 ?_
                    first
                      | (exact ⟨by omega, hI⟩)
                      | (exfalso; omega)
                      | (exact ⟨rfl, hI⟩))
              · subst b38
                refine ⟨_, 175, rfl, by decide, ?_⟩
                first
                 | (exfalso; omega)
                 | (skip
                    refine e_aload_n (i := 0) 176 dX12_count_175 rfl rfl rfl ?_
                    refine e_callV 179 mt_yX12_hereOf mv_yX12_hereOf wd_1834 (by decide) dX12_count_176 at_928 jc_12 rfl rfl rfl (Nat.le_of_ble_eq_true rfl) (jroom (by decide)) rfl (m_hereOf hC ?_)
                    dsimp only [jpush]
                    refine e_iret dX12_count_179 ?_
                    first
                      | (exact ⟨by omega, hI⟩)
                      | (exfalso; omega)
                      | (exact ⟨rfl, hI⟩))
              · subst b38
                refine ⟨_, 180, rfl, by decide, ?_⟩
                first
                 | (exfalso; omega)
                 | (skip
                    refine e_aload_n (i := 0) 181 dX12_count_180 rfl rfl rfl ?_
                    refine e_getr (j := 1) 184 fl_12_13 dX12_count_181 at_928 rfl rfl tp_928_1 rfl ?_
                    refine e_sipush 187 dX12_count_184 (by decide) rfl ?_
                    refine e_iald 188 dX12_count_187 ar_929 (by decide) (by decide) rfl (fun r187 => ?_)
                    refine e_iret dX12_count_188 ?_
                    first
                      | (exact ⟨by omega, hI⟩)
                      | (exfalso; omega)
                      | (exact ⟨rfl, hI⟩))
              · subst b38
                refine ⟨_, 189, rfl, by decide, ?_⟩
                first
                 | (exfalso; omega)
                 | (skip
                    refine e_aload_n (i := 0) 190 dX12_count_189 rfl rfl rfl ?_
                    refine e_getr (j := 1) 193 fl_12_13 dX12_count_190 at_928 rfl rfl tp_928_1 rfl ?_
                    refine e_sipush 196 dX12_count_193 (by decide) rfl ?_
                    refine e_iald 197 dX12_count_196 ar_929 (by decide) (by decide) rfl (fun r196 => ?_)
                    refine e_iret dX12_count_197 ?_
                    first
                      | (exact ⟨by omega, hI⟩)
                      | (exfalso; omega)
                      | (exact ⟨rfl, hI⟩))
            · skip
              refine e_iconst 199 dX12_count_198 rfl ?_
              refine e_iret dX12_count_199 ?_
              first
                | (exact ⟨by omega, hI⟩)
                | (exfalso; omega)
                | (exact ⟨rfl, hI⟩))
    · subst b1
      refine ⟨_, 72, rfl, by decide, ?_⟩
      refine e_aload_n (i := 0) 73 dX11_count_72 rfl rfl rfl ?_
      refine e_getr (j := 0) 76 fl_11_10 dX11_count_73 at_0 rfl rfl tp_0_0 rfl ?_
      refine e_geti (j := 8) 79 fl_11_146 dX11_count_76 at_1 (by decide) rfl rfl (fun r76 => ?_)
      refine e_iret dX11_count_79 ?_
      refine jCt_of mt_yX12_count (Nat.le_of_ble_eq_true rfl) (fun X2 => ?_)
      refine e_aload_n (i := 0) 1 dX12_count_0 rfl rfl rfl ?_
      refine e_iconst 2 dX12_count_1 rfl ?_
      refine e_put0 (j := 0) 5 fl_12_1 dX12_count_2 at_928 rfl rfl rfl (by decide) hI.1 rfl ?_
      refine e_iload_n (i := 1) 6 dX12_count_5 rfl rfl rfl ?_
      refine e_i2l 7 dX12_count_6 (by omega) rfl ?_
      refine e_ldc2 (z := (20)) 10 (ix := 363) wd_1833 (by decide) dX12_count_7 rfl ?_
      refine e_bipush 12 dX12_count_10 (by decide) rfl ?_
      refine e_aload_n (i := 0) 13 dX12_count_12 rfl rfl rfl ?_
      refine e_getr (j := 1) 16 fl_12_13 dX12_count_13 at_928 rfl rfl tp_928_1 rfl ?_
      refine e_sipush 19 dX12_count_16 (by decide) rfl ?_
      refine e_iald 20 dX12_count_19 ar_929 (by decide) (by decide) rfl (fun r19 => ?_)
      refine e_iadd 21 dX12_count_20 rfl ?_
      refine e_i2l 22 dX12_count_21 (by omega) rfl ?_
      refine e_callS 25 mt_yX12_within ms_yX12_within wd_1390 (by decide) dX12_count_22 rfl rfl (Nat.le_of_ble_eq_true rfl) (jroom (by decide)) rfl (m_within (by omega) (by omega) (by omega) (fun w22 => ?_) (fun w22 => ?_))
      · dsimp only [jpush]
        first
         | (exfalso; omega)
         | (skip
            refine e_if_eq 28 37 dX12_count_25 (by decide) (by decide) rfl (fun h => absurd h (by decide)) (fun _ => ?_)
            refine e_aload_n (i := 0) 29 dX12_count_28 rfl rfl rfl ?_
            refine e_iload_n (i := 1) 30 dX12_count_29 rfl rfl rfl ?_
            refine e_bipush 32 dX12_count_30 (by decide) rfl ?_
            refine e_isub 33 dX12_count_32 rfl ?_
            refine e_callV 36 mt_yX12_leftOn mv_yX12_leftOn wd_1645 (by decide) dX12_count_33 at_928 jc_12 rfl rfl rfl (Nat.le_of_ble_eq_true rfl) (jroom (by decide)) rfl (m_leftOn hI.2.1 (by omega) ?_)
            dsimp only [jpush]
            refine e_iret dX12_count_36 ?_
            first
              | (exact ⟨by omega, hI⟩)
              | (exfalso; omega)
              | (exact ⟨rfl, hI⟩))
      · dsimp only [jpush]
        first
         | (exfalso; omega)
         | (skip
            refine e_if_eq 28 37 dX12_count_25 (by decide) (by decide) rfl (fun _ => ?_) (fun h => absurd h (by decide))
            refine e_iload_n (i := 1) 38 dX12_count_37 rfl rfl rfl ?_
            refine e_tsw 198 dX12_count_38 (by omega) (by decide) (fun c0 hc0 hz0 => ?_) (fun b38 => ?_)
            · have hcc : c0 = 0 ∨ c0 = 1 ∨ c0 = 2 ∨ c0 = 3 ∨ c0 = 4 ∨ c0 = 5 ∨ c0 = 6 ∨ c0 = 7 ∨ c0 = 8 ∨ c0 = 9 ∨ c0 = 10 ∨ c0 = 11 := by omega
              rcases hcc with b38 | b38 | b38 | b38 | b38 | b38 | b38 | b38 | b38 | b38 | b38 | b38
              · subst b38
                refine ⟨_, 100, rfl, by decide, ?_⟩
                first
                 | (exfalso; omega)
                 | (skip
                    refine e_aload_n (i := 0) 101 dX12_count_100 rfl rfl rfl ?_
                    refine e_getr (j := 1) 104 fl_12_13 dX12_count_101 at_928 rfl rfl tp_928_1 rfl ?_
                    refine e_sipush 107 dX12_count_104 (by decide) rfl ?_
                    refine e_iald 108 dX12_count_107 ar_929 (by decide) (by decide) rfl (fun r107 => ?_)
                    refine e_iret dX12_count_108 ?_
                    first
                      | (exact ⟨by omega, hI⟩)
                      | (exfalso; omega)
                      | (exact ⟨rfl, hI⟩))
              · subst b38
                refine ⟨_, 109, rfl, by decide, ?_⟩
                first
                 | (exfalso; omega)
                 | (skip
                    refine e_aload_n (i := 0) 110 dX12_count_109 rfl rfl rfl ?_
                    refine e_getr (j := 1) 113 fl_12_13 dX12_count_110 at_928 rfl rfl tp_928_1 rfl ?_
                    refine e_sipush 116 dX12_count_113 (by decide) rfl ?_
                    refine e_iald 117 dX12_count_116 ar_929 (by decide) (by decide) rfl (fun r116 => ?_)
                    refine e_iret dX12_count_117 ?_
                    first
                      | (exact ⟨by omega, hI⟩)
                      | (exfalso; omega)
                      | (exact ⟨rfl, hI⟩))
              · subst b38
                refine ⟨_, 118, rfl, by decide, ?_⟩
                first
                 | (exfalso; omega)
                 | (skip
                    refine e_aload_n (i := 0) 119 dX12_count_118 rfl rfl rfl ?_
                    refine e_getr (j := 1) 122 fl_12_13 dX12_count_119 at_928 rfl rfl tp_928_1 rfl ?_
                    refine e_sipush 125 dX12_count_122 (by decide) rfl ?_
                    refine e_iald 126 dX12_count_125 ar_929 (by decide) (by decide) rfl (fun r125 => ?_)
                    refine e_iret dX12_count_126 ?_
                    first
                      | (exact ⟨by omega, hI⟩)
                      | (exfalso; omega)
                      | (exact ⟨rfl, hI⟩))
              · subst b38
                refine ⟨_, 127, rfl, by decide, ?_⟩
                first
                 | (exfalso; omega)
                 | (skip
                    refine e_aload_n (i := 0) 128 dX12_count_127 rfl rfl rfl ?_
                    refine e_getr (j := 1) 131 fl_12_13 dX12_count_128 at_928 rfl rfl tp_928_1 rfl ?_
                    refine e_sipush 134 dX12_count_131 (by decide) rfl ?_
                    refine e_iald 135 dX12_count_134 ar_929 (by decide) (by decide) rfl (fun r134 => ?_)
                    refine e_iret dX12_count_135 ?_
                    first
                      | (exact ⟨by omega, hI⟩)
                      | (exfalso; omega)
                      | (exact ⟨rfl, hI⟩))
              · subst b38
                refine ⟨_, 136, rfl, by decide, ?_⟩
                first
                 | (exfalso; omega)
                 | (skip
                    refine e_aload_n (i := 0) 137 dX12_count_136 rfl rfl rfl ?_
                    refine e_getr (j := 1) 140 fl_12_13 dX12_count_137 at_928 rfl rfl tp_928_1 rfl ?_
                    refine e_sipush 143 dX12_count_140 (by decide) rfl ?_
                    refine e_iald 144 dX12_count_143 ar_929 (by decide) (by decide) rfl (fun r143 => ?_)
                    refine e_iret dX12_count_144 ?_
                    first
                      | (exact ⟨by omega, hI⟩)
                      | (exfalso; omega)
                      | (exact ⟨rfl, hI⟩))
              · subst b38
                refine ⟨_, 145, rfl, by decide, ?_⟩
                first
                 | (exfalso; omega)
                 | (skip
                    refine e_aload_n (i := 0) 146 dX12_count_145 rfl rfl rfl ?_
                    refine e_getr (j := 1) 149 fl_12_13 dX12_count_146 at_928 rfl rfl tp_928_1 rfl ?_
                    refine e_bipush 151 dX12_count_149 (by decide) rfl ?_
                    refine e_iald 152 dX12_count_151 ar_929 (by decide) (by decide) rfl (fun r151 => ?_)
                    refine e_iret dX12_count_152 ?_
                    first
                      | (exact ⟨by omega, hI⟩)
                      | (exfalso; omega)
                      | (exact ⟨rfl, hI⟩))
              · subst b38
                refine ⟨_, 153, rfl, by decide, ?_⟩
                first
                 | (exfalso; omega)
                 | (skip
                    refine e_aload_n (i := 0) 154 dX12_count_153 rfl rfl rfl ?_
                    refine e_getr (j := 1) 157 fl_12_13 dX12_count_154 at_928 rfl rfl tp_928_1 rfl ?_
                    refine e_bipush 159 dX12_count_157 (by decide) rfl ?_
                    refine e_iald 160 dX12_count_159 ar_929 (by decide) (by decide) rfl (fun r159 => ?_)
                    refine e_iret dX12_count_160 ?_
                    first
                      | (exact ⟨by omega, hI⟩)
                      | (exfalso; omega)
                      | (exact ⟨rfl, hI⟩))
              · subst b38
                refine ⟨_, 161, rfl, by decide, ?_⟩
                first
                 | (exfalso; omega)
                 | (skip
                    refine e_aload_n (i := 0) 162 dX12_count_161 rfl rfl rfl ?_
                    refine e_geti (j := 5) 165 fl_12_79 dX12_count_162 at_928 (by decide) rfl rfl (fun r162 => ?_)
                    refine e_iret dX12_count_165 ?_
                    first
                      | (exact ⟨by omega, hI⟩)
                      | (exfalso; omega)
                      | (exact ⟨rfl, hI⟩))
              · subst b38
                refine ⟨_, 166, rfl, by decide, ?_⟩
                first
                 | (exfalso; omega)
                 | (skip
                    refine e_aload_n (i := 0) 167 dX12_count_166 rfl rfl rfl ?_
                    refine e_getr (j := 1) 170 fl_12_13 dX12_count_167 at_928 rfl rfl tp_928_1 rfl ?_
                    refine e_sipush 173 dX12_count_170 (by decide) rfl ?_
                    refine e_iald 174 dX12_count_173 ar_929 (by decide) (by decide) rfl (fun r173 => ?_)
                    refine e_iret dX12_count_174 ?_
                    first
                      | (exact ⟨by omega, hI⟩)
                      | (exfalso; omega)
                      | (exact ⟨rfl, hI⟩))
              · subst b38
                refine ⟨_, 175, rfl, by decide, ?_⟩
                first
                 | (exfalso; omega)
                 | (skip
                    refine e_aload_n (i := 0) 176 dX12_count_175 rfl rfl rfl ?_
                    refine e_callV 179 mt_yX12_hereOf mv_yX12_hereOf wd_1834 (by decide) dX12_count_176 at_928 jc_12 rfl rfl rfl (Nat.le_of_ble_eq_true rfl) (jroom (by decide)) rfl (m_hereOf hC ?_)
                    dsimp only [jpush]
                    refine e_iret dX12_count_179 ?_
                    first
                      | (exact ⟨by omega, hI⟩)
                      | (exfalso; omega)
                      | (exact ⟨rfl, hI⟩))
              · subst b38
                refine ⟨_, 180, rfl, by decide, ?_⟩
                first
                 | (exfalso; omega)
                 | (skip
                    refine e_aload_n (i := 0) 181 dX12_count_180 rfl rfl rfl ?_
                    refine e_getr (j := 1) 184 fl_12_13 dX12_count_181 at_928 rfl rfl tp_928_1 rfl ?_
                    refine e_sipush 187 dX12_count_184 (by decide) rfl ?_
                    refine e_iald 188 dX12_count_187 ar_929 (by decide) (by decide) rfl (fun r187 => ?_)
                    refine e_iret dX12_count_188 ?_
                    first
                      | (exact ⟨by omega, hI⟩)
                      | (exfalso; omega)
                      | (exact ⟨rfl, hI⟩))
              · subst b38
                refine ⟨_, 189, rfl, by decide, ?_⟩
                first
                 | (exfalso; omega)
                 | (skip
                    refine e_aload_n (i := 0) 190 dX12_count_189 rfl rfl rfl ?_
                    refine e_getr (j := 1) 193 fl_12_13 dX12_count_190 at_928 rfl rfl tp_928_1 rfl ?_
                    refine e_sipush 196 dX12_count_193 (by decide) rfl ?_
                    refine e_iald 197 dX12_count_196 ar_929 (by decide) (by decide) rfl (fun r196 => ?_)
                    refine e_iret dX12_count_197 ?_
                    first
                      | (exact ⟨by omega, hI⟩)
                      | (exfalso; omega)
                      | (exact ⟨rfl, hI⟩))
            · skip
              refine e_iconst 199 dX12_count_198 rfl ?_
              refine e_iret dX12_count_199 ?_
              first
                | (exact ⟨by omega, hI⟩)
                | (exfalso; omega)
                | (exact ⟨rfl, hI⟩))
    · subst b1
      refine ⟨_, 80, rfl, by decide, ?_⟩
      refine e_aload_n (i := 0) 81 dX11_count_80 rfl rfl rfl ?_
      refine e_getr (j := 0) 84 fl_11_10 dX11_count_81 at_0 rfl rfl tp_0_0 rfl ?_
      refine e_geti (j := 10) 87 fl_11_271 dX11_count_84 at_1 (by decide) rfl rfl (fun r84 => ?_)
      refine e_iret dX11_count_87 ?_
      refine jCt_of mt_yX12_count (Nat.le_of_ble_eq_true rfl) (fun X2 => ?_)
      refine e_aload_n (i := 0) 1 dX12_count_0 rfl rfl rfl ?_
      refine e_iconst 2 dX12_count_1 rfl ?_
      refine e_put0 (j := 0) 5 fl_12_1 dX12_count_2 at_928 rfl rfl rfl (by decide) hI.1 rfl ?_
      refine e_iload_n (i := 1) 6 dX12_count_5 rfl rfl rfl ?_
      refine e_i2l 7 dX12_count_6 (by omega) rfl ?_
      refine e_ldc2 (z := (20)) 10 (ix := 363) wd_1833 (by decide) dX12_count_7 rfl ?_
      refine e_bipush 12 dX12_count_10 (by decide) rfl ?_
      refine e_aload_n (i := 0) 13 dX12_count_12 rfl rfl rfl ?_
      refine e_getr (j := 1) 16 fl_12_13 dX12_count_13 at_928 rfl rfl tp_928_1 rfl ?_
      refine e_sipush 19 dX12_count_16 (by decide) rfl ?_
      refine e_iald 20 dX12_count_19 ar_929 (by decide) (by decide) rfl (fun r19 => ?_)
      refine e_iadd 21 dX12_count_20 rfl ?_
      refine e_i2l 22 dX12_count_21 (by omega) rfl ?_
      refine e_callS 25 mt_yX12_within ms_yX12_within wd_1390 (by decide) dX12_count_22 rfl rfl (Nat.le_of_ble_eq_true rfl) (jroom (by decide)) rfl (m_within (by omega) (by omega) (by omega) (fun w22 => ?_) (fun w22 => ?_))
      · dsimp only [jpush]
        first
         | (exfalso; omega)
         | (skip
            refine e_if_eq 28 37 dX12_count_25 (by decide) (by decide) rfl (fun h => absurd h (by decide)) (fun _ => ?_)
            refine e_aload_n (i := 0) 29 dX12_count_28 rfl rfl rfl ?_
            refine e_iload_n (i := 1) 30 dX12_count_29 rfl rfl rfl ?_
            refine e_bipush 32 dX12_count_30 (by decide) rfl ?_
            refine e_isub 33 dX12_count_32 rfl ?_
            refine e_callV 36 mt_yX12_leftOn mv_yX12_leftOn wd_1645 (by decide) dX12_count_33 at_928 jc_12 rfl rfl rfl (Nat.le_of_ble_eq_true rfl) (jroom (by decide)) rfl (m_leftOn hI.2.1 (by omega) ?_)
            dsimp only [jpush]
            refine e_iret dX12_count_36 ?_
            first
              | (exact ⟨by omega, hI⟩)
              | (exfalso; omega)
              | (exact ⟨rfl, hI⟩))
      · dsimp only [jpush]
        first
         | (exfalso; omega)
         | (skip
            refine e_if_eq 28 37 dX12_count_25 (by decide) (by decide) rfl (fun _ => ?_) (fun h => absurd h (by decide))
            refine e_iload_n (i := 1) 38 dX12_count_37 rfl rfl rfl ?_
            refine e_tsw 198 dX12_count_38 (by omega) (by decide) (fun c0 hc0 hz0 => ?_) (fun b38 => ?_)
            · have hcc : c0 = 0 ∨ c0 = 1 ∨ c0 = 2 ∨ c0 = 3 ∨ c0 = 4 ∨ c0 = 5 ∨ c0 = 6 ∨ c0 = 7 ∨ c0 = 8 ∨ c0 = 9 ∨ c0 = 10 ∨ c0 = 11 := by omega
              rcases hcc with b38 | b38 | b38 | b38 | b38 | b38 | b38 | b38 | b38 | b38 | b38 | b38
              · subst b38
                refine ⟨_, 100, rfl, by decide, ?_⟩
                first
                 | (exfalso; omega)
                 | (skip
                    refine e_aload_n (i := 0) 101 dX12_count_100 rfl rfl rfl ?_
                    refine e_getr (j := 1) 104 fl_12_13 dX12_count_101 at_928 rfl rfl tp_928_1 rfl ?_
                    refine e_sipush 107 dX12_count_104 (by decide) rfl ?_
                    refine e_iald 108 dX12_count_107 ar_929 (by decide) (by decide) rfl (fun r107 => ?_)
                    refine e_iret dX12_count_108 ?_
                    first
                      | (exact ⟨by omega, hI⟩)
                      | (exfalso; omega)
                      | (exact ⟨rfl, hI⟩))
              · subst b38
                refine ⟨_, 109, rfl, by decide, ?_⟩
                first
                 | (exfalso; omega)
                 | (skip
                    refine e_aload_n (i := 0) 110 dX12_count_109 rfl rfl rfl ?_
                    refine e_getr (j := 1) 113 fl_12_13 dX12_count_110 at_928 rfl rfl tp_928_1 rfl ?_
                    refine e_sipush 116 dX12_count_113 (by decide) rfl ?_
                    refine e_iald 117 dX12_count_116 ar_929 (by decide) (by decide) rfl (fun r116 => ?_)
                    refine e_iret dX12_count_117 ?_
                    first
                      | (exact ⟨by omega, hI⟩)
                      | (exfalso; omega)
                      | (exact ⟨rfl, hI⟩))
              · subst b38
                refine ⟨_, 118, rfl, by decide, ?_⟩
                first
                 | (exfalso; omega)
                 | (skip
                    refine e_aload_n (i := 0) 119 dX12_count_118 rfl rfl rfl ?_
                    refine e_getr (j := 1) 122 fl_12_13 dX12_count_119 at_928 rfl rfl tp_928_1 rfl ?_
                    refine e_sipush 125 dX12_count_122 (by decide) rfl ?_
                    refine e_iald 126 dX12_count_125 ar_929 (by decide) (by decide) rfl (fun r125 => ?_)
                    refine e_iret dX12_count_126 ?_
                    first
                      | (exact ⟨by omega, hI⟩)
                      | (exfalso; omega)
                      | (exact ⟨rfl, hI⟩))
              · subst b38
                refine ⟨_, 127, rfl, by decide, ?_⟩
                first
                 | (exfalso; omega)
                 | (skip
                    refine e_aload_n (i := 0) 128 dX12_count_127 rfl rfl rfl ?_
                    refine e_getr (j := 1) 131 fl_12_13 dX12_count_128 at_928 rfl rfl tp_928_1 rfl ?_
                    refine e_sipush 134 dX12_count_131 (by decide) rfl ?_
                    refine e_iald 135 dX12_count_134 ar_929 (by decide) (by decide) rfl (fun r134 => ?_)
                    refine e_iret dX12_count_135 ?_
                    first
                      | (exact ⟨by omega, hI⟩)
                      | (exfalso; omega)
                      | (exact ⟨rfl, hI⟩))
              · subst b38
                refine ⟨_, 136, rfl, by decide, ?_⟩
                first
                 | (exfalso; omega)
                 | (skip
                    refine e_aload_n (i := 0) 137 dX12_count_136 rfl rfl rfl ?_
                    refine e_getr (j := 1) 140 fl_12_13 dX12_count_137 at_928 rfl rfl tp_928_1 rfl ?_
                    refine e_sipush 143 dX12_count_140 (by decide) rfl ?_
                    refine e_iald 144 dX12_count_143 ar_929 (by decide) (by decide) rfl (fun r143 => ?_)
                    refine e_iret dX12_count_144 ?_
                    first
                      | (exact ⟨by omega, hI⟩)
                      | (exfalso; omega)
                      | (exact ⟨rfl, hI⟩))
              · subst b38
                refine ⟨_, 145, rfl, by decide, ?_⟩
                first
                 | (exfalso; omega)
                 | (skip
                    refine e_aload_n (i := 0) 146 dX12_count_145 rfl rfl rfl ?_
                    refine e_getr (j := 1) 149 fl_12_13 dX12_count_146 at_928 rfl rfl tp_928_1 rfl ?_
                    refine e_bipush 151 dX12_count_149 (by decide) rfl ?_
                    refine e_iald 152 dX12_count_151 ar_929 (by decide) (by decide) rfl (fun r151 => ?_)
                    refine e_iret dX12_count_152 ?_
                    first
                      | (exact ⟨by omega, hI⟩)
                      | (exfalso; omega)
                      | (exact ⟨rfl, hI⟩))
              · subst b38
                refine ⟨_, 153, rfl, by decide, ?_⟩
                first
                 | (exfalso; omega)
                 | (skip
                    refine e_aload_n (i := 0) 154 dX12_count_153 rfl rfl rfl ?_
                    refine e_getr (j := 1) 157 fl_12_13 dX12_count_154 at_928 rfl rfl tp_928_1 rfl ?_
                    refine e_bipush 159 dX12_count_157 (by decide) rfl ?_
                    refine e_iald 160 dX12_count_159 ar_929 (by decide) (by decide) rfl (fun r159 => ?_)
                    refine e_iret dX12_count_160 ?_
                    first
                      | (exact ⟨by omega, hI⟩)
                      | (exfalso; omega)
                      | (exact ⟨rfl, hI⟩))
              · subst b38
                refine ⟨_, 161, rfl, by decide, ?_⟩
                first
                 | (exfalso; omega)
                 | (skip
                    refine e_aload_n (i := 0) 162 dX12_count_161 rfl rfl rfl ?_
                    refine e_geti (j := 5) 165 fl_12_79 dX12_count_162 at_928 (by decide) rfl rfl (fun r162 => ?_)
                    refine e_iret dX12_count_165 ?_
                    first
                      | (exact ⟨by omega, hI⟩)
                      | (exfalso; omega)
                      | (exact ⟨rfl, hI⟩))
              · subst b38
                refine ⟨_, 166, rfl, by decide, ?_⟩
                first
                 | (exfalso; omega)
                 | (skip
                    refine e_aload_n (i := 0) 167 dX12_count_166 rfl rfl rfl ?_
                    refine e_getr (j := 1) 170 fl_12_13 dX12_count_167 at_928 rfl rfl tp_928_1 rfl ?_
                    refine e_sipush 173 dX12_count_170 (by decide) rfl ?_
                    refine e_iald 174 dX12_count_173 ar_929 (by decide) (by decide) rfl (fun r173 => ?_)
                    refine e_iret dX12_count_174 ?_
                    first
                      | (exact ⟨by omega, hI⟩)
                      | (exfalso; omega)
                      | (exact ⟨rfl, hI⟩))
              · subst b38
                refine ⟨_, 175, rfl, by decide, ?_⟩
                first
                 | (exfalso; omega)
                 | (skip
                    refine e_aload_n (i := 0) 176 dX12_count_175 rfl rfl rfl ?_
                    refine e_callV 179 mt_yX12_hereOf mv_yX12_hereOf wd_1834 (by decide) dX12_count_176 at_928 jc_12 rfl rfl rfl (Nat.le_of_ble_eq_true rfl) (jroom (by decide)) rfl (m_hereOf hC ?_)
                    dsimp only [jpush]
                    refine e_iret dX12_count_179 ?_
                    first
                      | (exact ⟨by omega, hI⟩)
                      | (exfalso; omega)
                      | (exact ⟨rfl, hI⟩))
              · subst b38
                refine ⟨_, 180, rfl, by decide, ?_⟩
                first
                 | (exfalso; omega)
                 | (skip
                    refine e_aload_n (i := 0) 181 dX12_count_180 rfl rfl rfl ?_
                    refine e_getr (j := 1) 184 fl_12_13 dX12_count_181 at_928 rfl rfl tp_928_1 rfl ?_
                    refine e_sipush 187 dX12_count_184 (by decide) rfl ?_
                    refine e_iald 188 dX12_count_187 ar_929 (by decide) (by decide) rfl (fun r187 => ?_)
                    refine e_iret dX12_count_188 ?_
                    first
                      | (exact ⟨by omega, hI⟩)
                      | (exfalso; omega)
                      | (exact ⟨rfl, hI⟩))
              · subst b38
                refine ⟨_, 189, rfl, by decide, ?_⟩
                first
                 | (exfalso; omega)
                 | (skip
                    refine e_aload_n (i := 0) 190 dX12_count_189 rfl rfl rfl ?_
                    refine e_getr (j := 1) 193 fl_12_13 dX12_count_190 at_928 rfl rfl tp_928_1 rfl ?_
                    refine e_sipush 196 dX12_count_193 (by decide) rfl ?_
                    refine e_iald 197 dX12_count_196 ar_929 (by decide) (by decide) rfl (fun r196 => ?_)
                    refine e_iret dX12_count_197 ?_
                    first
                      | (exact ⟨by omega, hI⟩)
                      | (exfalso; omega)
                      | (exact ⟨rfl, hI⟩))
            · skip
              refine e_iconst 199 dX12_count_198 rfl ?_
              refine e_iret dX12_count_199 ?_
              first
                | (exact ⟨by omega, hI⟩)
                | (exfalso; omega)
                | (exact ⟨rfl, hI⟩))
    · subst b1
      refine ⟨_, 88, rfl, by decide, ?_⟩
      refine e_aload_n (i := 0) 89 dX11_count_88 rfl rfl rfl ?_
      refine e_getr (j := 0) 92 fl_11_10 dX11_count_89 at_0 rfl rfl tp_0_0 rfl ?_
      refine e_geti (j := 12) 95 fl_11_222 dX11_count_92 at_1 (by decide) rfl rfl (fun r92 => ?_)
      refine e_iret dX11_count_95 ?_
      refine jCt_of mt_yX12_count (Nat.le_of_ble_eq_true rfl) (fun X2 => ?_)
      refine e_aload_n (i := 0) 1 dX12_count_0 rfl rfl rfl ?_
      refine e_iconst 2 dX12_count_1 rfl ?_
      refine e_put0 (j := 0) 5 fl_12_1 dX12_count_2 at_928 rfl rfl rfl (by decide) hI.1 rfl ?_
      refine e_iload_n (i := 1) 6 dX12_count_5 rfl rfl rfl ?_
      refine e_i2l 7 dX12_count_6 (by omega) rfl ?_
      refine e_ldc2 (z := (20)) 10 (ix := 363) wd_1833 (by decide) dX12_count_7 rfl ?_
      refine e_bipush 12 dX12_count_10 (by decide) rfl ?_
      refine e_aload_n (i := 0) 13 dX12_count_12 rfl rfl rfl ?_
      refine e_getr (j := 1) 16 fl_12_13 dX12_count_13 at_928 rfl rfl tp_928_1 rfl ?_
      refine e_sipush 19 dX12_count_16 (by decide) rfl ?_
      refine e_iald 20 dX12_count_19 ar_929 (by decide) (by decide) rfl (fun r19 => ?_)
      refine e_iadd 21 dX12_count_20 rfl ?_
      refine e_i2l 22 dX12_count_21 (by omega) rfl ?_
      refine e_callS 25 mt_yX12_within ms_yX12_within wd_1390 (by decide) dX12_count_22 rfl rfl (Nat.le_of_ble_eq_true rfl) (jroom (by decide)) rfl (m_within (by omega) (by omega) (by omega) (fun w22 => ?_) (fun w22 => ?_))
      · dsimp only [jpush]
        first
         | (exfalso; omega)
         | (skip
            refine e_if_eq 28 37 dX12_count_25 (by decide) (by decide) rfl (fun h => absurd h (by decide)) (fun _ => ?_)
            refine e_aload_n (i := 0) 29 dX12_count_28 rfl rfl rfl ?_
            refine e_iload_n (i := 1) 30 dX12_count_29 rfl rfl rfl ?_
            refine e_bipush 32 dX12_count_30 (by decide) rfl ?_
            refine e_isub 33 dX12_count_32 rfl ?_
            refine e_callV 36 mt_yX12_leftOn mv_yX12_leftOn wd_1645 (by decide) dX12_count_33 at_928 jc_12 rfl rfl rfl (Nat.le_of_ble_eq_true rfl) (jroom (by decide)) rfl (m_leftOn hI.2.1 (by omega) ?_)
            dsimp only [jpush]
            refine e_iret dX12_count_36 ?_
            first
              | (exact ⟨by omega, hI⟩)
              | (exfalso; omega)
              | (exact ⟨rfl, hI⟩))
      · dsimp only [jpush]
        first
         | (exfalso; omega)
         | (skip
            refine e_if_eq 28 37 dX12_count_25 (by decide) (by decide) rfl (fun _ => ?_) (fun h => absurd h (by decide))
            refine e_iload_n (i := 1) 38 dX12_count_37 rfl rfl rfl ?_
            refine e_tsw 198 dX12_count_38 (by omega) (by decide) (fun c0 hc0 hz0 => ?_) (fun b38 => ?_)
            · have hcc : c0 = 0 ∨ c0 = 1 ∨ c0 = 2 ∨ c0 = 3 ∨ c0 = 4 ∨ c0 = 5 ∨ c0 = 6 ∨ c0 = 7 ∨ c0 = 8 ∨ c0 = 9 ∨ c0 = 10 ∨ c0 = 11 := by omega
              rcases hcc with b38 | b38 | b38 | b38 | b38 | b38 | b38 | b38 | b38 | b38 | b38 | b38
              · subst b38
                refine ⟨_, 100, rfl, by decide, ?_⟩
                first
                 | (exfalso; omega)
                 | (skip
                    refine e_aload_n (i := 0) 101 dX12_count_100 rfl rfl rfl ?_
                    refine e_getr (j := 1) 104 fl_12_13 dX12_count_101 at_928 rfl rfl tp_928_1 rfl ?_
                    refine e_sipush 107 dX12_count_104 (by decide) rfl ?_
                    refine e_iald 108 dX12_count_107 ar_929 (by decide) (by decide) rfl (fun r107 => ?_)
                    refine e_iret dX12_count_108 ?_
                    first
                      | (exact ⟨by omega, hI⟩)
                      | (exfalso; omega)
                      | (exact ⟨rfl, hI⟩))
              · subst b38
                refine ⟨_, 109, rfl, by decide, ?_⟩
                first
                 | (exfalso; omega)
                 | (skip
                    refine e_aload_n (i := 0) 110 dX12_count_109 rfl rfl rfl ?_
                    refine e_getr (j := 1) 113 fl_12_13 dX12_count_110 at_928 rfl rfl tp_928_1 rfl ?_
                    refine e_sipush 116 dX12_count_113 (by decide) rfl ?_
                    refine e_iald 117 dX12_count_116 ar_929 (by decide) (by decide) rfl (fun r116 => ?_)
                    refine e_iret dX12_count_117 ?_
                    first
                      | (exact ⟨by omega, hI⟩)
                      | (exfalso; omega)
                      | (exact ⟨rfl, hI⟩))
              · subst b38
                refine ⟨_, 118, rfl, by decide, ?_⟩
                first
                 | (exfalso; omega)
                 | (skip
                    refine e_aload_n (i := 0) 119 dX12_count_118 rfl rfl rfl ?_
                    refine e_getr (j := 1) 122 fl_12_13 dX12_count_119 at_928 rfl rfl tp_928_1 rfl ?_
                    refine e_sipush 125 dX12_count_122 (by decide) rfl ?_
                    refine e_iald 126 dX12_count_125 ar_929 (by decide) (by decide) rfl (fun r125 => ?_)
                    refine e_iret dX12_count_126 ?_
                    first
                      | (exact ⟨by omega, hI⟩)
                      | (exfalso; omega)
                      | (exact ⟨rfl, hI⟩))
              · subst b38
                refine ⟨_, 127, rfl, by decide, ?_⟩
                first
                 | (exfalso; omega)
                 | (skip
                    refine e_aload_n (i := 0) 128 dX12_count_127 rfl rfl rfl ?_
                    refine e_getr (j := 1) 131 fl_12_13 dX12_count_128 at_928 rfl rfl tp_928_1 rfl ?_
                    refine e_sipush 134 dX12_count_131 (by decide) rfl ?_
                    refine e_iald 135 dX12_count_134 ar_929 (by decide) (by decide) rfl (fun r134 => ?_)
                    refine e_iret dX12_count_135 ?_
                    first
                      | (exact ⟨by omega, hI⟩)
                      | (exfalso; omega)
                      | (exact ⟨rfl, hI⟩))
              · subst b38
                refine ⟨_, 136, rfl, by decide, ?_⟩
                first
                 | (exfalso; omega)
                 | (skip
                    refine e_aload_n (i := 0) 137 dX12_count_136 rfl rfl rfl ?_
                    refine e_getr (j := 1) 140 fl_12_13 dX12_count_137 at_928 rfl rfl tp_928_1 rfl ?_
                    refine e_sipush 143 dX12_count_140 (by decide) rfl ?_
                    refine e_iald 144 dX12_count_143 ar_929 (by decide) (by decide) rfl (fun r143 => ?_)
                    refine e_iret dX12_count_144 ?_
                    first
                      | (exact ⟨by omega, hI⟩)
                      | (exfalso; omega)
                      | (exact ⟨rfl, hI⟩))
              · subst b38
                refine ⟨_, 145, rfl, by decide, ?_⟩
                first
                 | (exfalso; omega)
                 | (skip
                    refine e_aload_n (i := 0) 146 dX12_count_145 rfl rfl rfl ?_
                    refine e_getr (j := 1) 149 fl_12_13 dX12_count_146 at_928 rfl rfl tp_928_1 rfl ?_
                    refine e_bipush 151 dX12_count_149 (by decide) rfl ?_
                    refine e_iald 152 dX12_count_151 ar_929 (by decide) (by decide) rfl (fun r151 => ?_)
                    refine e_iret dX12_count_152 ?_
                    first
                      | (exact ⟨by omega, hI⟩)
                      | (exfalso; omega)
                      | (exact ⟨rfl, hI⟩))
              · subst b38
                refine ⟨_, 153, rfl, by decide, ?_⟩
                first
                 | (exfalso; omega)
                 | (skip
                    refine e_aload_n (i := 0) 154 dX12_count_153 rfl rfl rfl ?_
                    refine e_getr (j := 1) 157 fl_12_13 dX12_count_154 at_928 rfl rfl tp_928_1 rfl ?_
                    refine e_bipush 159 dX12_count_157 (by decide) rfl ?_
                    refine e_iald 160 dX12_count_159 ar_929 (by decide) (by decide) rfl (fun r159 => ?_)
                    refine e_iret dX12_count_160 ?_
                    first
                      | (exact ⟨by omega, hI⟩)
                      | (exfalso; omega)
                      | (exact ⟨rfl, hI⟩))
              · subst b38
                refine ⟨_, 161, rfl, by decide, ?_⟩
                first
                 | (exfalso; omega)
                 | (skip
                    refine e_aload_n (i := 0) 162 dX12_count_161 rfl rfl rfl ?_
                    refine e_geti (j := 5) 165 fl_12_79 dX12_count_162 at_928 (by decide) rfl rfl (fun r162 => ?_)
                    refine e_iret dX12_count_165 ?_
                    first
                      | (exact ⟨by omega, hI⟩)
                      | (exfalso; omega)
                      | (exact ⟨rfl, hI⟩))
              · subst b38
                refine ⟨_, 166, rfl, by decide, ?_⟩
                first
                 | (exfalso; omega)
                 | (skip
                    refine e_aload_n (i := 0) 167 dX12_count_166 rfl rfl rfl ?_
                    refine e_getr (j := 1) 170 fl_12_13 dX12_count_167 at_928 rfl rfl tp_928_1 rfl ?_
                    refine e_sipush 173 dX12_count_170 (by decide) rfl ?_
                    refine e_iald 174 dX12_count_173 ar_929 (by decide) (by decide) rfl (fun r173 => ?_)
                    refine e_iret dX12_count_174 ?_
                    first
                      | (exact ⟨by omega, hI⟩)
                      | (exfalso; omega)
                      | (exact ⟨rfl, hI⟩))
              · subst b38
                refine ⟨_, 175, rfl, by decide, ?_⟩
                first
                 | (exfalso; omega)
                 | (skip
                    refine e_aload_n (i := 0) 176 dX12_count_175 rfl rfl rfl ?_
                    refine e_callV 179 mt_yX12_hereOf mv_yX12_hereOf wd_1834 (by decide) dX12_count_176 at_928 jc_12 rfl rfl rfl (Nat.le_of_ble_eq_true rfl) (jroom (by decide)) rfl (m_hereOf hC ?_)
                    dsimp only [jpush]
                    refine e_iret dX12_count_179 ?_
                    first
                      | (exact ⟨by omega, hI⟩)
                      | (exfalso; omega)
                      | (exact ⟨rfl, hI⟩))
              · subst b38
                refine ⟨_, 180, rfl, by decide, ?_⟩
                first
                 | (exfalso; omega)
                 | (skip
                    refine e_aload_n (i := 0) 181 dX12_count_180 rfl rfl rfl ?_
                    refine e_getr (j := 1) 184 fl_12_13 dX12_count_181 at_928 rfl rfl tp_928_1 rfl ?_
                    refine e_sipush 187 dX12_count_184 (by decide) rfl ?_
                    refine e_iald 188 dX12_count_187 ar_929 (by decide) (by decide) rfl (fun r187 => ?_)
                    refine e_iret dX12_count_188 ?_
                    first
                      | (exact ⟨by omega, hI⟩)
                      | (exfalso; omega)
                      | (exact ⟨rfl, hI⟩))
              · subst b38
                refine ⟨_, 189, rfl, by decide, ?_⟩
                first
                 | (exfalso; omega)
                 | (skip
                    refine e_aload_n (i := 0) 190 dX12_count_189 rfl rfl rfl ?_
                    refine e_getr (j := 1) 193 fl_12_13 dX12_count_190 at_928 rfl rfl tp_928_1 rfl ?_
                    refine e_sipush 196 dX12_count_193 (by decide) rfl ?_
                    refine e_iald 197 dX12_count_196 ar_929 (by decide) (by decide) rfl (fun r196 => ?_)
                    refine e_iret dX12_count_197 ?_
                    first
                      | (exact ⟨by omega, hI⟩)
                      | (exfalso; omega)
                      | (exact ⟨rfl, hI⟩))
            · skip
              refine e_iconst 199 dX12_count_198 rfl ?_
              refine e_iret dX12_count_199 ?_
              first
                | (exact ⟨by omega, hI⟩)
                | (exfalso; omega)
                | (exact ⟨rfl, hI⟩))
    · subst b1
      refine ⟨_, 96, rfl, by decide, ?_⟩
      refine e_aload_n (i := 0) 97 dX11_count_96 rfl rfl rfl ?_
      refine e_getr (j := 0) 100 fl_11_10 dX11_count_97 at_0 rfl rfl tp_0_0 rfl ?_
      refine e_geti (j := 14) 103 fl_11_315 dX11_count_100 at_1 (by decide) rfl rfl (fun r100 => ?_)
      refine e_iret dX11_count_103 ?_
      refine jCt_of mt_yX12_count (Nat.le_of_ble_eq_true rfl) (fun X2 => ?_)
      refine e_aload_n (i := 0) 1 dX12_count_0 rfl rfl rfl ?_
      refine e_iconst 2 dX12_count_1 rfl ?_
      refine e_put0 (j := 0) 5 fl_12_1 dX12_count_2 at_928 rfl rfl rfl (by decide) hI.1 rfl ?_
      refine e_iload_n (i := 1) 6 dX12_count_5 rfl rfl rfl ?_
      refine e_i2l 7 dX12_count_6 (by omega) rfl ?_
      refine e_ldc2 (z := (20)) 10 (ix := 363) wd_1833 (by decide) dX12_count_7 rfl ?_
      refine e_bipush 12 dX12_count_10 (by decide) rfl ?_
      refine e_aload_n (i := 0) 13 dX12_count_12 rfl rfl rfl ?_
      refine e_getr (j := 1) 16 fl_12_13 dX12_count_13 at_928 rfl rfl tp_928_1 rfl ?_
      refine e_sipush 19 dX12_count_16 (by decide) rfl ?_
      refine e_iald 20 dX12_count_19 ar_929 (by decide) (by decide) rfl (fun r19 => ?_)
      refine e_iadd 21 dX12_count_20 rfl ?_
      refine e_i2l 22 dX12_count_21 (by omega) rfl ?_
      refine e_callS 25 mt_yX12_within ms_yX12_within wd_1390 (by decide) dX12_count_22 rfl rfl (Nat.le_of_ble_eq_true rfl) (jroom (by decide)) rfl (m_within (by omega) (by omega) (by omega) (fun w22 => ?_) (fun w22 => ?_))
      · dsimp only [jpush]
        first
         | (exfalso; omega)
         | (skip
            refine e_if_eq 28 37 dX12_count_25 (by decide) (by decide) rfl (fun h => absurd h (by decide)) (fun _ => ?_)
            refine e_aload_n (i := 0) 29 dX12_count_28 rfl rfl rfl ?_
            refine e_iload_n (i := 1) 30 dX12_count_29 rfl rfl rfl ?_
            refine e_bipush 32 dX12_count_30 (by decide) rfl ?_
            refine e_isub 33 dX12_count_32 rfl ?_
            refine e_callV 36 mt_yX12_leftOn mv_yX12_leftOn wd_1645 (by decide) dX12_count_33 at_928 jc_12 rfl rfl rfl (Nat.le_of_ble_eq_true rfl) (jroom (by decide)) rfl (m_leftOn hI.2.1 (by omega) ?_)
            dsimp only [jpush]
            refine e_iret dX12_count_36 ?_
            first
              | (exact ⟨by omega, hI⟩)
              | (exfalso; omega)
              | (exact ⟨rfl, hI⟩))
      · dsimp only [jpush]
        first
         | (exfalso; omega)
         | (skip
            refine e_if_eq 28 37 dX12_count_25 (by decide) (by decide) rfl (fun _ => ?_) (fun h => absurd h (by decide))
            refine e_iload_n (i := 1) 38 dX12_count_37 rfl rfl rfl ?_
            refine e_tsw 198 dX12_count_38 (by omega) (by decide) (fun c0 hc0 hz0 => ?_) (fun b38 => ?_)
            · have hcc : c0 = 0 ∨ c0 = 1 ∨ c0 = 2 ∨ c0 = 3 ∨ c0 = 4 ∨ c0 = 5 ∨ c0 = 6 ∨ c0 = 7 ∨ c0 = 8 ∨ c0 = 9 ∨ c0 = 10 ∨ c0 = 11 := by omega
              rcases hcc with b38 | b38 | b38 | b38 | b38 | b38 | b38 | b38 | b38 | b38 | b38 | b38
              · subst b38
                refine ⟨_, 100, rfl, by decide, ?_⟩
                first
                 | (exfalso; omega)
                 | (skip
                    refine e_aload_n (i := 0) 101 dX12_count_100 rfl rfl rfl ?_
                    refine e_getr (j := 1) 104 fl_12_13 dX12_count_101 at_928 rfl rfl tp_928_1 rfl ?_
                    refine e_sipush 107 dX12_count_104 (by decide) rfl ?_
                    refine e_iald 108 dX12_count_107 ar_929 (by decide) (by decide) rfl (fun r107 => ?_)
                    refine e_iret dX12_count_108 ?_
                    first
                      | (exact ⟨by omega, hI⟩)
                      | (exfalso; omega)
                      | (exact ⟨rfl, hI⟩))
              · subst b38
                refine ⟨_, 109, rfl, by decide, ?_⟩
                first
                 | (exfalso; omega)
                 | (skip
                    refine e_aload_n (i := 0) 110 dX12_count_109 rfl rfl rfl ?_
                    refine e_getr (j := 1) 113 fl_12_13 dX12_count_110 at_928 rfl rfl tp_928_1 rfl ?_
                    refine e_sipush 116 dX12_count_113 (by decide) rfl ?_
                    refine e_iald 117 dX12_count_116 ar_929 (by decide) (by decide) rfl (fun r116 => ?_)
                    refine e_iret dX12_count_117 ?_
                    first
                      | (exact ⟨by omega, hI⟩)
                      | (exfalso; omega)
                      | (exact ⟨rfl, hI⟩))
              · subst b38
                refine ⟨_, 118, rfl, by decide, ?_⟩
                first
                 | (exfalso; omega)
                 | (skip
                    refine e_aload_n (i := 0) 119 dX12_count_118 rfl rfl rfl ?_
                    refine e_getr (j := 1) 122 fl_12_13 dX12_count_119 at_928 rfl rfl tp_928_1 rfl ?_
                    refine e_sipush 125 dX12_count_122 (by decide) rfl ?_
                    refine e_iald 126 dX12_count_125 ar_929 (by decide) (by decide) rfl (fun r125 => ?_)
                    refine e_iret dX12_count_126 ?_
                    first
                      | (exact ⟨by omega, hI⟩)
                      | (exfalso; omega)
                      | (exact ⟨rfl, hI⟩))
              · subst b38
                refine ⟨_, 127, rfl, by decide, ?_⟩
                first
                 | (exfalso; omega)
                 | (skip
                    refine e_aload_n (i := 0) 128 dX12_count_127 rfl rfl rfl ?_
                    refine e_getr (j := 1) 131 fl_12_13 dX12_count_128 at_928 rfl rfl tp_928_1 rfl ?_
                    refine e_sipush 134 dX12_count_131 (by decide) rfl ?_
                    refine e_iald 135 dX12_count_134 ar_929 (by decide) (by decide) rfl (fun r134 => ?_)
                    refine e_iret dX12_count_135 ?_
                    first
                      | (exact ⟨by omega, hI⟩)
                      | (exfalso; omega)
                      | (exact ⟨rfl, hI⟩))
              · subst b38
                refine ⟨_, 136, rfl, by decide, ?_⟩
                first
                 | (exfalso; omega)
                 | (skip
                    refine e_aload_n (i := 0) 137 dX12_count_136 rfl rfl rfl ?_
                    refine e_getr (j := 1) 140 fl_12_13 dX12_count_137 at_928 rfl rfl tp_928_1 rfl ?_
                    refine e_sipush 143 dX12_count_140 (by decide) rfl ?_
                    refine e_iald 144 dX12_count_143 ar_929 (by decide) (by decide) rfl (fun r143 => ?_)
                    refine e_iret dX12_count_144 ?_
                    first
                      | (exact ⟨by omega, hI⟩)
                      | (exfalso; omega)
                      | (exact ⟨rfl, hI⟩))
              · subst b38
                refine ⟨_, 145, rfl, by decide, ?_⟩
                first
                 | (exfalso; omega)
                 | (skip
                    refine e_aload_n (i := 0) 146 dX12_count_145 rfl rfl rfl ?_
                    refine e_getr (j := 1) 149 fl_12_13 dX12_count_146 at_928 rfl rfl tp_928_1 rfl ?_
                    refine e_bipush 151 dX12_count_149 (by decide) rfl ?_
                    refine e_iald 152 dX12_count_151 ar_929 (by decide) (by decide) rfl (fun r151 => ?_)
                    refine e_iret dX12_count_152 ?_
                    first
                      | (exact ⟨by omega, hI⟩)
                      | (exfalso; omega)
                      | (exact ⟨rfl, hI⟩))
              · subst b38
                refine ⟨_, 153, rfl, by decide, ?_⟩
                first
                 | (exfalso; omega)
                 | (skip
                    refine e_aload_n (i := 0) 154 dX12_count_153 rfl rfl rfl ?_
                    refine e_getr (j := 1) 157 fl_12_13 dX12_count_154 at_928 rfl rfl tp_928_1 rfl ?_
                    refine e_bipush 159 dX12_count_157 (by decide) rfl ?_
                    refine e_iald 160 dX12_count_159 ar_929 (by decide) (by decide) rfl (fun r159 => ?_)
                    refine e_iret dX12_count_160 ?_
                    first
                      | (exact ⟨by omega, hI⟩)
                      | (exfalso; omega)
                      | (exact ⟨rfl, hI⟩))
              · subst b38
                refine ⟨_, 161, rfl, by decide, ?_⟩
                first
                 | (exfalso; omega)
                 | (skip
                    refine e_aload_n (i := 0) 162 dX12_count_161 rfl rfl rfl ?_
                    refine e_geti (j := 5) 165 fl_12_79 dX12_count_162 at_928 (by decide) rfl rfl (fun r162 => ?_)
                    refine e_iret dX12_count_165 ?_
                    first
                      | (exact ⟨by omega, hI⟩)
                      | (exfalso; omega)
                      | (exact ⟨rfl, hI⟩))
              · subst b38
                refine ⟨_, 166, rfl, by decide, ?_⟩
                first
                 | (exfalso; omega)
                 | (skip
                    refine e_aload_n (i := 0) 167 dX12_count_166 rfl rfl rfl ?_
                    refine e_getr (j := 1) 170 fl_12_13 dX12_count_167 at_928 rfl rfl tp_928_1 rfl ?_
                    refine e_sipush 173 dX12_count_170 (by decide) rfl ?_
                    refine e_iald 174 dX12_count_173 ar_929 (by decide) (by decide) rfl (fun r173 => ?_)
                    refine e_iret dX12_count_174 ?_
                    first
                      | (exact ⟨by omega, hI⟩)
                      | (exfalso; omega)
                      | (exact ⟨rfl, hI⟩))
              · subst b38
                refine ⟨_, 175, rfl, by decide, ?_⟩
                first
                 | (exfalso; omega)
                 | (skip
                    refine e_aload_n (i := 0) 176 dX12_count_175 rfl rfl rfl ?_
                    refine e_callV 179 mt_yX12_hereOf mv_yX12_hereOf wd_1834 (by decide) dX12_count_176 at_928 jc_12 rfl rfl rfl (Nat.le_of_ble_eq_true rfl) (jroom (by decide)) rfl (m_hereOf hC ?_)
                    dsimp only [jpush]
                    refine e_iret dX12_count_179 ?_
                    first
                      | (exact ⟨by omega, hI⟩)
                      | (exfalso; omega)
                      | (exact ⟨rfl, hI⟩))
              · subst b38
                refine ⟨_, 180, rfl, by decide, ?_⟩
                first
                 | (exfalso; omega)
                 | (skip
                    refine e_aload_n (i := 0) 181 dX12_count_180 rfl rfl rfl ?_
                    refine e_getr (j := 1) 184 fl_12_13 dX12_count_181 at_928 rfl rfl tp_928_1 rfl ?_
                    refine e_sipush 187 dX12_count_184 (by decide) rfl ?_
                    refine e_iald 188 dX12_count_187 ar_929 (by decide) (by decide) rfl (fun r187 => ?_)
                    refine e_iret dX12_count_188 ?_
                    first
                      | (exact ⟨by omega, hI⟩)
                      | (exfalso; omega)
                      | (exact ⟨rfl, hI⟩))
              · subst b38
                refine ⟨_, 189, rfl, by decide, ?_⟩
                first
                 | (exfalso; omega)
                 | (skip
                    refine e_aload_n (i := 0) 190 dX12_count_189 rfl rfl rfl ?_
                    refine e_getr (j := 1) 193 fl_12_13 dX12_count_190 at_928 rfl rfl tp_928_1 rfl ?_
                    refine e_sipush 196 dX12_count_193 (by decide) rfl ?_
                    refine e_iald 197 dX12_count_196 ar_929 (by decide) (by decide) rfl (fun r196 => ?_)
                    refine e_iret dX12_count_197 ?_
                    first
                      | (exact ⟨by omega, hI⟩)
                      | (exfalso; omega)
                      | (exact ⟨rfl, hI⟩))
            · skip
              refine e_iconst 199 dX12_count_198 rfl ?_
              refine e_iret dX12_count_199 ?_
              first
                | (exact ⟨by omega, hI⟩)
                | (exfalso; omega)
                | (exact ⟨rfl, hI⟩))
    · subst b1
      refine ⟨_, 104, rfl, by decide, ?_⟩
      refine e_aload_n (i := 0) 105 dX11_count_104 rfl rfl rfl ?_
      refine e_getr (j := 0) 108 fl_11_10 dX11_count_105 at_0 rfl rfl tp_0_0 rfl ?_
      refine e_getr (j := 0) 111 fl_11_73 dX11_count_108 at_1 rfl rfl tp_1_0 rfl ?_
      refine e_geti (j := 5) 114 fl_11_84 dX11_count_111 at_2 (by decide) rfl rfl (fun r111 => ?_)
      refine e_iret dX11_count_114 ?_
      refine jCt_of mt_yX12_count (Nat.le_of_ble_eq_true rfl) (fun X2 => ?_)
      refine e_aload_n (i := 0) 1 dX12_count_0 rfl rfl rfl ?_
      refine e_iconst 2 dX12_count_1 rfl ?_
      refine e_put0 (j := 0) 5 fl_12_1 dX12_count_2 at_928 rfl rfl rfl (by decide) hI.1 rfl ?_
      refine e_iload_n (i := 1) 6 dX12_count_5 rfl rfl rfl ?_
      refine e_i2l 7 dX12_count_6 (by omega) rfl ?_
      refine e_ldc2 (z := (20)) 10 (ix := 363) wd_1833 (by decide) dX12_count_7 rfl ?_
      refine e_bipush 12 dX12_count_10 (by decide) rfl ?_
      refine e_aload_n (i := 0) 13 dX12_count_12 rfl rfl rfl ?_
      refine e_getr (j := 1) 16 fl_12_13 dX12_count_13 at_928 rfl rfl tp_928_1 rfl ?_
      refine e_sipush 19 dX12_count_16 (by decide) rfl ?_
      refine e_iald 20 dX12_count_19 ar_929 (by decide) (by decide) rfl (fun r19 => ?_)
      refine e_iadd 21 dX12_count_20 rfl ?_
      refine e_i2l 22 dX12_count_21 (by omega) rfl ?_
      refine e_callS 25 mt_yX12_within ms_yX12_within wd_1390 (by decide) dX12_count_22 rfl rfl (Nat.le_of_ble_eq_true rfl) (jroom (by decide)) rfl (m_within (by omega) (by omega) (by omega) (fun w22 => ?_) (fun w22 => ?_))
      · dsimp only [jpush]
        first
         | (exfalso; omega)
         | (skip
            refine e_if_eq 28 37 dX12_count_25 (by decide) (by decide) rfl (fun h => absurd h (by decide)) (fun _ => ?_)
            refine e_aload_n (i := 0) 29 dX12_count_28 rfl rfl rfl ?_
            refine e_iload_n (i := 1) 30 dX12_count_29 rfl rfl rfl ?_
            refine e_bipush 32 dX12_count_30 (by decide) rfl ?_
            refine e_isub 33 dX12_count_32 rfl ?_
            refine e_callV 36 mt_yX12_leftOn mv_yX12_leftOn wd_1645 (by decide) dX12_count_33 at_928 jc_12 rfl rfl rfl (Nat.le_of_ble_eq_true rfl) (jroom (by decide)) rfl (m_leftOn hI.2.1 (by omega) ?_)
            dsimp only [jpush]
            refine e_iret dX12_count_36 ?_
            first
              | (exact ⟨by omega, hI⟩)
              | (exfalso; omega)
              | (exact ⟨rfl, hI⟩))
      · dsimp only [jpush]
        first
         | (exfalso; omega)
         | (skip
            refine e_if_eq 28 37 dX12_count_25 (by decide) (by decide) rfl (fun _ => ?_) (fun h => absurd h (by decide))
            refine e_iload_n (i := 1) 38 dX12_count_37 rfl rfl rfl ?_
            refine e_tsw 198 dX12_count_38 (by omega) (by decide) (fun c0 hc0 hz0 => ?_) (fun b38 => ?_)
            · have hcc : c0 = 0 ∨ c0 = 1 ∨ c0 = 2 ∨ c0 = 3 ∨ c0 = 4 ∨ c0 = 5 ∨ c0 = 6 ∨ c0 = 7 ∨ c0 = 8 ∨ c0 = 9 ∨ c0 = 10 ∨ c0 = 11 := by omega
              rcases hcc with b38 | b38 | b38 | b38 | b38 | b38 | b38 | b38 | b38 | b38 | b38 | b38
              · subst b38
                refine ⟨_, 100, rfl, by decide, ?_⟩
                first
                 | (exfalso; omega)
                 | (skip
                    refine e_aload_n (i := 0) 101 dX12_count_100 rfl rfl rfl ?_
                    refine e_getr (j := 1) 104 fl_12_13 dX12_count_101 at_928 rfl rfl tp_928_1 rfl ?_
                    refine e_sipush 107 dX12_count_104 (by decide) rfl ?_
                    refine e_iald 108 dX12_count_107 ar_929 (by decide) (by decide) rfl (fun r107 => ?_)
                    refine e_iret dX12_count_108 ?_
                    first
                      | (exact ⟨by omega, hI⟩)
                      | (exfalso; omega)
                      | (exact ⟨rfl, hI⟩))
              · subst b38
                refine ⟨_, 109, rfl, by decide, ?_⟩
                first
                 | (exfalso; omega)
                 | (skip
                    refine e_aload_n (i := 0) 110 dX12_count_109 rfl rfl rfl ?_
                    refine e_getr (j := 1) 113 fl_12_13 dX12_count_110 at_928 rfl rfl tp_928_1 rfl ?_
                    refine e_sipush 116 dX12_count_113 (by decide) rfl ?_
                    refine e_iald 117 dX12_count_116 ar_929 (by decide) (by decide) rfl (fun r116 => ?_)
                    refine e_iret dX12_count_117 ?_
                    first
                      | (exact ⟨by omega, hI⟩)
                      | (exfalso; omega)
                      | (exact ⟨rfl, hI⟩))
              · subst b38
                refine ⟨_, 118, rfl, by decide, ?_⟩
                first
                 | (exfalso; omega)
                 | (skip
                    refine e_aload_n (i := 0) 119 dX12_count_118 rfl rfl rfl ?_
                    refine e_getr (j := 1) 122 fl_12_13 dX12_count_119 at_928 rfl rfl tp_928_1 rfl ?_
                    refine e_sipush 125 dX12_count_122 (by decide) rfl ?_
                    refine e_iald 126 dX12_count_125 ar_929 (by decide) (by decide) rfl (fun r125 => ?_)
                    refine e_iret dX12_count_126 ?_
                    first
                      | (exact ⟨by omega, hI⟩)
                      | (exfalso; omega)
                      | (exact ⟨rfl, hI⟩))
              · subst b38
                refine ⟨_, 127, rfl, by decide, ?_⟩
                first
                 | (exfalso; omega)
                 | (skip
                    refine e_aload_n (i := 0) 128 dX12_count_127 rfl rfl rfl ?_
                    refine e_getr (j := 1) 131 fl_12_13 dX12_count_128 at_928 rfl rfl tp_928_1 rfl ?_
                    refine e_sipush 134 dX12_count_131 (by decide) rfl ?_
                    refine e_iald 135 dX12_count_134 ar_929 (by decide) (by decide) rfl (fun r134 => ?_)
                    refine e_iret dX12_count_135 ?_
                    first
                      | (exact ⟨by omega, hI⟩)
                      | (exfalso; omega)
                      | (exact ⟨rfl, hI⟩))
              · subst b38
                refine ⟨_, 136, rfl, by decide, ?_⟩
                first
                 | (exfalso; omega)
                 | (skip
                    refine e_aload_n (i := 0) 137 dX12_count_136 rfl rfl rfl ?_
                    refine e_getr (j := 1) 140 fl_12_13 dX12_count_137 at_928 rfl rfl tp_928_1 rfl ?_
                    refine e_sipush 143 dX12_count_140 (by decide) rfl ?_
                    refine e_iald 144 dX12_count_143 ar_929 (by decide) (by decide) rfl (fun r143 => ?_)
                    refine e_iret dX12_count_144 ?_
                    first
                      | (exact ⟨by omega, hI⟩)
                      | (exfalso; omega)
                      | (exact ⟨rfl, hI⟩))
              · subst b38
                refine ⟨_, 145, rfl, by decide, ?_⟩
                first
                 | (exfalso; omega)
                 | (skip
                    refine e_aload_n (i := 0) 146 dX12_count_145 rfl rfl rfl ?_
                    refine e_getr (j := 1) 149 fl_12_13 dX12_count_146 at_928 rfl rfl tp_928_1 rfl ?_
                    refine e_bipush 151 dX12_count_149 (by decide) rfl ?_
                    refine e_iald 152 dX12_count_151 ar_929 (by decide) (by decide) rfl (fun r151 => ?_)
                    refine e_iret dX12_count_152 ?_
                    first
                      | (exact ⟨by omega, hI⟩)
                      | (exfalso; omega)
                      | (exact ⟨rfl, hI⟩))
              · subst b38
                refine ⟨_, 153, rfl, by decide, ?_⟩
                first
                 | (exfalso; omega)
                 | (skip
                    refine e_aload_n (i := 0) 154 dX12_count_153 rfl rfl rfl ?_
                    refine e_getr (j := 1) 157 fl_12_13 dX12_count_154 at_928 rfl rfl tp_928_1 rfl ?_
                    refine e_bipush 159 dX12_count_157 (by decide) rfl ?_
                    refine e_iald 160 dX12_count_159 ar_929 (by decide) (by decide) rfl (fun r159 => ?_)
                    refine e_iret dX12_count_160 ?_
                    first
                      | (exact ⟨by omega, hI⟩)
                      | (exfalso; omega)
                      | (exact ⟨rfl, hI⟩))
              · subst b38
                refine ⟨_, 161, rfl, by decide, ?_⟩
                first
                 | (exfalso; omega)
                 | (skip
                    refine e_aload_n (i := 0) 162 dX12_count_161 rfl rfl rfl ?_
                    refine e_geti (j := 5) 165 fl_12_79 dX12_count_162 at_928 (by decide) rfl rfl (fun r162 => ?_)
                    refine e_iret dX12_count_165 ?_
                    first
                      | (exact ⟨by omega, hI⟩)
                      | (exfalso; omega)
                      | (exact ⟨rfl, hI⟩))
              · subst b38
                refine ⟨_, 166, rfl, by decide, ?_⟩
                first
                 | (exfalso; omega)
                 | (skip
                    refine e_aload_n (i := 0) 167 dX12_count_166 rfl rfl rfl ?_
                    refine e_getr (j := 1) 170 fl_12_13 dX12_count_167 at_928 rfl rfl tp_928_1 rfl ?_
                    refine e_sipush 173 dX12_count_170 (by decide) rfl ?_
                    refine e_iald 174 dX12_count_173 ar_929 (by decide) (by decide) rfl (fun r173 => ?_)
                    refine e_iret dX12_count_174 ?_
                    first
                      | (exact ⟨by omega, hI⟩)
                      | (exfalso; omega)
                      | (exact ⟨rfl, hI⟩))
              · subst b38
                refine ⟨_, 175, rfl, by decide, ?_⟩
                first
                 | (exfalso; omega)
                 | (skip
                    refine e_aload_n (i := 0) 176 dX12_count_175 rfl rfl rfl ?_
                    refine e_callV 179 mt_yX12_hereOf mv_yX12_hereOf wd_1834 (by decide) dX12_count_176 at_928 jc_12 rfl rfl rfl (Nat.le_of_ble_eq_true rfl) (jroom (by decide)) rfl (m_hereOf hC ?_)
                    dsimp only [jpush]
                    refine e_iret dX12_count_179 ?_
                    first
                      | (exact ⟨by omega, hI⟩)
                      | (exfalso; omega)
                      | (exact ⟨rfl, hI⟩))
              · subst b38
                refine ⟨_, 180, rfl, by decide, ?_⟩
                first
                 | (exfalso; omega)
                 | (skip
                    refine e_aload_n (i := 0) 181 dX12_count_180 rfl rfl rfl ?_
                    refine e_getr (j := 1) 184 fl_12_13 dX12_count_181 at_928 rfl rfl tp_928_1 rfl ?_
                    refine e_sipush 187 dX12_count_184 (by decide) rfl ?_
                    refine e_iald 188 dX12_count_187 ar_929 (by decide) (by decide) rfl (fun r187 => ?_)
                    refine e_iret dX12_count_188 ?_
                    first
                      | (exact ⟨by omega, hI⟩)
                      | (exfalso; omega)
                      | (exact ⟨rfl, hI⟩))
              · subst b38
                refine ⟨_, 189, rfl, by decide, ?_⟩
                first
                 | (exfalso; omega)
                 | (skip
                    refine e_aload_n (i := 0) 190 dX12_count_189 rfl rfl rfl ?_
                    refine e_getr (j := 1) 193 fl_12_13 dX12_count_190 at_928 rfl rfl tp_928_1 rfl ?_
                    refine e_sipush 196 dX12_count_193 (by decide) rfl ?_
                    refine e_iald 197 dX12_count_196 ar_929 (by decide) (by decide) rfl (fun r196 => ?_)
                    refine e_iret dX12_count_197 ?_
                    first
                      | (exact ⟨by omega, hI⟩)
                      | (exfalso; omega)
                      | (exact ⟨rfl, hI⟩))
            · skip
              refine e_iconst 199 dX12_count_198 rfl ?_
              refine e_iret dX12_count_199 ?_
              first
                | (exact ⟨by omega, hI⟩)
                | (exfalso; omega)
                | (exact ⟨rfl, hI⟩))
    · subst b1
      refine ⟨_, 115, rfl, by decide, ?_⟩
      refine e_aload_n (i := 0) 116 dX11_count_115 rfl rfl rfl ?_
      refine e_getr (j := 0) 119 fl_11_10 dX11_count_116 at_0 rfl rfl tp_0_0 rfl ?_
      refine e_getr (j := 3) 122 fl_11_87 dX11_count_119 at_1 rfl rfl tp_1_3 rfl ?_
      refine e_geti (j := 0) 125 fl_11_97 dX11_count_122 at_12 (by decide) rfl rfl (fun r122 => ?_)
      refine e_iret dX11_count_125 ?_
      refine jCt_of mt_yX12_count (Nat.le_of_ble_eq_true rfl) (fun X2 => ?_)
      refine e_aload_n (i := 0) 1 dX12_count_0 rfl rfl rfl ?_
      refine e_iconst 2 dX12_count_1 rfl ?_
      refine e_put0 (j := 0) 5 fl_12_1 dX12_count_2 at_928 rfl rfl rfl (by decide) hI.1 rfl ?_
      refine e_iload_n (i := 1) 6 dX12_count_5 rfl rfl rfl ?_
      refine e_i2l 7 dX12_count_6 (by omega) rfl ?_
      refine e_ldc2 (z := (20)) 10 (ix := 363) wd_1833 (by decide) dX12_count_7 rfl ?_
      refine e_bipush 12 dX12_count_10 (by decide) rfl ?_
      refine e_aload_n (i := 0) 13 dX12_count_12 rfl rfl rfl ?_
      refine e_getr (j := 1) 16 fl_12_13 dX12_count_13 at_928 rfl rfl tp_928_1 rfl ?_
      refine e_sipush 19 dX12_count_16 (by decide) rfl ?_
      refine e_iald 20 dX12_count_19 ar_929 (by decide) (by decide) rfl (fun r19 => ?_)
      refine e_iadd 21 dX12_count_20 rfl ?_
      refine e_i2l 22 dX12_count_21 (by omega) rfl ?_
      refine e_callS 25 mt_yX12_within ms_yX12_within wd_1390 (by decide) dX12_count_22 rfl rfl (Nat.le_of_ble_eq_true rfl) (jroom (by decide)) rfl (m_within (by omega) (by omega) (by omega) (fun w22 => ?_) (fun w22 => ?_))
      · dsimp only [jpush]
        first
         | (exfalso; omega)
         | (skip
            refine e_if_eq 28 37 dX12_count_25 (by decide) (by decide) rfl (fun h => absurd h (by decide)) (fun _ => ?_)
            refine e_aload_n (i := 0) 29 dX12_count_28 rfl rfl rfl ?_
            refine e_iload_n (i := 1) 30 dX12_count_29 rfl rfl rfl ?_
            refine e_bipush 32 dX12_count_30 (by decide) rfl ?_
            refine e_isub 33 dX12_count_32 rfl ?_
            refine e_callV 36 mt_yX12_leftOn mv_yX12_leftOn wd_1645 (by decide) dX12_count_33 at_928 jc_12 rfl rfl rfl (Nat.le_of_ble_eq_true rfl) (jroom (by decide)) rfl (m_leftOn hI.2.1 (by omega) ?_)
            dsimp only [jpush]
            refine e_iret dX12_count_36 ?_
            first
              | (exact ⟨by omega, hI⟩)
              | (exfalso; omega)
              | (exact ⟨rfl, hI⟩))
      · dsimp only [jpush]
        first
         | (exfalso; omega)
         | (skip
            refine e_if_eq 28 37 dX12_count_25 (by decide) (by decide) rfl (fun _ => ?_) (fun h => absurd h (by decide))
            refine e_iload_n (i := 1) 38 dX12_count_37 rfl rfl rfl ?_
            refine e_tsw 198 dX12_count_38 (by omega) (by decide) (fun c0 hc0 hz0 => ?_) (fun b38 => ?_)
            · have hcc : c0 = 0 ∨ c0 = 1 ∨ c0 = 2 ∨ c0 = 3 ∨ c0 = 4 ∨ c0 = 5 ∨ c0 = 6 ∨ c0 = 7 ∨ c0 = 8 ∨ c0 = 9 ∨ c0 = 10 ∨ c0 = 11 := by omega
              rcases hcc with b38 | b38 | b38 | b38 | b38 | b38 | b38 | b38 | b38 | b38 | b38 | b38
              · subst b38
                refine ⟨_, 100, rfl, by decide, ?_⟩
                first
                 | (exfalso; omega)
                 | (skip
                    refine e_aload_n (i := 0) 101 dX12_count_100 rfl rfl rfl ?_
                    refine e_getr (j := 1) 104 fl_12_13 dX12_count_101 at_928 rfl rfl tp_928_1 rfl ?_
                    refine e_sipush 107 dX12_count_104 (by decide) rfl ?_
                    refine e_iald 108 dX12_count_107 ar_929 (by decide) (by decide) rfl (fun r107 => ?_)
                    refine e_iret dX12_count_108 ?_
                    first
                      | (exact ⟨by omega, hI⟩)
                      | (exfalso; omega)
                      | (exact ⟨rfl, hI⟩))
              · subst b38
                refine ⟨_, 109, rfl, by decide, ?_⟩
                first
                 | (exfalso; omega)
                 | (skip
                    refine e_aload_n (i := 0) 110 dX12_count_109 rfl rfl rfl ?_
                    refine e_getr (j := 1) 113 fl_12_13 dX12_count_110 at_928 rfl rfl tp_928_1 rfl ?_
                    refine e_sipush 116 dX12_count_113 (by decide) rfl ?_
                    refine e_iald 117 dX12_count_116 ar_929 (by decide) (by decide) rfl (fun r116 => ?_)
                    refine e_iret dX12_count_117 ?_
                    first
                      | (exact ⟨by omega, hI⟩)
                      | (exfalso; omega)
                      | (exact ⟨rfl, hI⟩))
              · subst b38
                refine ⟨_, 118, rfl, by decide, ?_⟩
                first
                 | (exfalso; omega)
                 | (skip
                    refine e_aload_n (i := 0) 119 dX12_count_118 rfl rfl rfl ?_
                    refine e_getr (j := 1) 122 fl_12_13 dX12_count_119 at_928 rfl rfl tp_928_1 rfl ?_
                    refine e_sipush 125 dX12_count_122 (by decide) rfl ?_
                    refine e_iald 126 dX12_count_125 ar_929 (by decide) (by decide) rfl (fun r125 => ?_)
                    refine e_iret dX12_count_126 ?_
                    first
                      | (exact ⟨by omega, hI⟩)
                      | (exfalso; omega)
                      | (exact ⟨rfl, hI⟩))
              · subst b38
                refine ⟨_, 127, rfl, by decide, ?_⟩
                first
                 | (exfalso; omega)
                 | (skip
                    refine e_aload_n (i := 0) 128 dX12_count_127 rfl rfl rfl ?_
                    refine e_getr (j := 1) 131 fl_12_13 dX12_count_128 at_928 rfl rfl tp_928_1 rfl ?_
                    refine e_sipush 134 dX12_count_131 (by decide) rfl ?_
                    refine e_iald 135 dX12_count_134 ar_929 (by decide) (by decide) rfl (fun r134 => ?_)
                    refine e_iret dX12_count_135 ?_
                    first
                      | (exact ⟨by omega, hI⟩)
                      | (exfalso; omega)
                      | (exact ⟨rfl, hI⟩))
              · subst b38
                refine ⟨_, 136, rfl, by decide, ?_⟩
                first
                 | (exfalso; omega)
                 | (skip
                    refine e_aload_n (i := 0) 137 dX12_count_136 rfl rfl rfl ?_
                    refine e_getr (j := 1) 140 fl_12_13 dX12_count_137 at_928 rfl rfl tp_928_1 rfl ?_
                    refine e_sipush 143 dX12_count_140 (by decide) rfl ?_
                    refine e_iald 144 dX12_count_143 ar_929 (by decide) (by decide) rfl (fun r143 => ?_)
                    refine e_iret dX12_count_144 ?_
                    first
                      | (exact ⟨by omega, hI⟩)
                      | (exfalso; omega)
                      | (exact ⟨rfl, hI⟩))
              · subst b38
                refine ⟨_, 145, rfl, by decide, ?_⟩
                first
                 | (exfalso; omega)
                 | (skip
                    refine e_aload_n (i := 0) 146 dX12_count_145 rfl rfl rfl ?_
                    refine e_getr (j := 1) 149 fl_12_13 dX12_count_146 at_928 rfl rfl tp_928_1 rfl ?_
                    refine e_bipush 151 dX12_count_149 (by decide) rfl ?_
                    refine e_iald 152 dX12_count_151 ar_929 (by decide) (by decide) rfl (fun r151 => ?_)
                    refine e_iret dX12_count_152 ?_
                    first
                      | (exact ⟨by omega, hI⟩)
                      | (exfalso; omega)
                      | (exact ⟨rfl, hI⟩))
              · subst b38
                refine ⟨_, 153, rfl, by decide, ?_⟩
                first
                 | (exfalso; omega)
                 | (skip
                    refine e_aload_n (i := 0) 154 dX12_count_153 rfl rfl rfl ?_
                    refine e_getr (j := 1) 157 fl_12_13 dX12_count_154 at_928 rfl rfl tp_928_1 rfl ?_
                    refine e_bipush 159 dX12_count_157 (by decide) rfl ?_
                    refine e_iald 160 dX12_count_159 ar_929 (by decide) (by decide) rfl (fun r159 => ?_)
                    refine e_iret dX12_count_160 ?_
                    first
                      | (exact ⟨by omega, hI⟩)
                      | (exfalso; omega)
                      | (exact ⟨rfl, hI⟩))
              · subst b38
                refine ⟨_, 161, rfl, by decide, ?_⟩
                first
                 | (exfalso; omega)
                 | (skip
                    refine e_aload_n (i := 0) 162 dX12_count_161 rfl rfl rfl ?_
                    refine e_geti (j := 5) 165 fl_12_79 dX12_count_162 at_928 (by decide) rfl rfl (fun r162 => ?_)
                    refine e_iret dX12_count_165 ?_
                    first
                      | (exact ⟨by omega, hI⟩)
                      | (exfalso; omega)
                      | (exact ⟨rfl, hI⟩))
              · subst b38
                refine ⟨_, 166, rfl, by decide, ?_⟩
                first
                 | (exfalso; omega)
                 | (skip
                    refine e_aload_n (i := 0) 167 dX12_count_166 rfl rfl rfl ?_
                    refine e_getr (j := 1) 170 fl_12_13 dX12_count_167 at_928 rfl rfl tp_928_1 rfl ?_
                    refine e_sipush 173 dX12_count_170 (by decide) rfl ?_
                    refine e_iald 174 dX12_count_173 ar_929 (by decide) (by decide) rfl (fun r173 => ?_)
                    refine e_iret dX12_count_174 ?_
                    first
                      | (exact ⟨by omega, hI⟩)
                      | (exfalso; omega)
                      | (exact ⟨rfl, hI⟩))
              · subst b38
                refine ⟨_, 175, rfl, by decide, ?_⟩
                first
                 | (exfalso; omega)
                 | (skip
                    refine e_aload_n (i := 0) 176 dX12_count_175 rfl rfl rfl ?_
                    refine e_callV 179 mt_yX12_hereOf mv_yX12_hereOf wd_1834 (by decide) dX12_count_176 at_928 jc_12 rfl rfl rfl (Nat.le_of_ble_eq_true rfl) (jroom (by decide)) rfl (m_hereOf hC ?_)
                    dsimp only [jpush]
                    refine e_iret dX12_count_179 ?_
                    first
                      | (exact ⟨by omega, hI⟩)
                      | (exfalso; omega)
                      | (exact ⟨rfl, hI⟩))
              · subst b38
                refine ⟨_, 180, rfl, by decide, ?_⟩
                first
                 | (exfalso; omega)
                 | (skip
                    refine e_aload_n (i := 0) 181 dX12_count_180 rfl rfl rfl ?_
                    refine e_getr (j := 1) 184 fl_12_13 dX12_count_181 at_928 rfl rfl tp_928_1 rfl ?_
                    refine e_sipush 187 dX12_count_184 (by decide) rfl ?_
                    refine e_iald 188 dX12_count_187 ar_929 (by decide) (by decide) rfl (fun r187 => ?_)
                    refine e_iret dX12_count_188 ?_
                    first
                      | (exact ⟨by omega, hI⟩)
                      | (exfalso; omega)
                      | (exact ⟨rfl, hI⟩))
              · subst b38
                refine ⟨_, 189, rfl, by decide, ?_⟩
                first
                 | (exfalso; omega)
                 | (skip
                    refine e_aload_n (i := 0) 190 dX12_count_189 rfl rfl rfl ?_
                    refine e_getr (j := 1) 193 fl_12_13 dX12_count_190 at_928 rfl rfl tp_928_1 rfl ?_
                    refine e_sipush 196 dX12_count_193 (by decide) rfl ?_
                    refine e_iald 197 dX12_count_196 ar_929 (by decide) (by decide) rfl (fun r196 => ?_)
                    refine e_iret dX12_count_197 ?_
                    first
                      | (exact ⟨by omega, hI⟩)
                      | (exfalso; omega)
                      | (exact ⟨rfl, hI⟩))
            · skip
              refine e_iconst 199 dX12_count_198 rfl ?_
              refine e_iret dX12_count_199 ?_
              first
                | (exact ⟨by omega, hI⟩)
                | (exfalso; omega)
                | (exact ⟨rfl, hI⟩))
    · subst b1
      refine ⟨_, 126, rfl, by decide, ?_⟩
      refine e_aload_n (i := 0) 127 dX11_count_126 rfl rfl rfl ?_
      refine e_getr (j := 3) 130 fl_11_27 dX11_count_127 at_0 rfl rfl tp_0_3 rfl ?_
      refine e_getr (j := 0) 133 fl_11_45 dX11_count_130 at_882 rfl rfl tp_882_0 rfl ?_
      refine e_geti (j := 1) 136 fl_11_49 dX11_count_133 at_883 (by decide) rfl rfl (fun r133 => ?_)
      refine e_iret dX11_count_136 ?_
      refine jCt_of mt_yX12_count (Nat.le_of_ble_eq_true rfl) (fun X2 => ?_)
      refine e_aload_n (i := 0) 1 dX12_count_0 rfl rfl rfl ?_
      refine e_iconst 2 dX12_count_1 rfl ?_
      refine e_put0 (j := 0) 5 fl_12_1 dX12_count_2 at_928 rfl rfl rfl (by decide) hI.1 rfl ?_
      refine e_iload_n (i := 1) 6 dX12_count_5 rfl rfl rfl ?_
      refine e_i2l 7 dX12_count_6 (by omega) rfl ?_
      refine e_ldc2 (z := (20)) 10 (ix := 363) wd_1833 (by decide) dX12_count_7 rfl ?_
      refine e_bipush 12 dX12_count_10 (by decide) rfl ?_
      refine e_aload_n (i := 0) 13 dX12_count_12 rfl rfl rfl ?_
      refine e_getr (j := 1) 16 fl_12_13 dX12_count_13 at_928 rfl rfl tp_928_1 rfl ?_
      refine e_sipush 19 dX12_count_16 (by decide) rfl ?_
      refine e_iald 20 dX12_count_19 ar_929 (by decide) (by decide) rfl (fun r19 => ?_)
      refine e_iadd 21 dX12_count_20 rfl ?_
      refine e_i2l 22 dX12_count_21 (by omega) rfl ?_
      refine e_callS 25 mt_yX12_within ms_yX12_within wd_1390 (by decide) dX12_count_22 rfl rfl (Nat.le_of_ble_eq_true rfl) (jroom (by decide)) rfl (m_within (by omega) (by omega) (by omega) (fun w22 => ?_) (fun w22 => ?_))
      · dsimp only [jpush]
        first
         | (exfalso; omega)
         | (skip
            refine e_if_eq 28 37 dX12_count_25 (by decide) (by decide) rfl (fun h => absurd h (by decide)) (fun _ => ?_)
            refine e_aload_n (i := 0) 29 dX12_count_28 rfl rfl rfl ?_
            refine e_iload_n (i := 1) 30 dX12_count_29 rfl rfl rfl ?_
            refine e_bipush 32 dX12_count_30 (by decide) rfl ?_
            refine e_isub 33 dX12_count_32 rfl ?_
            refine e_callV 36 mt_yX12_leftOn mv_yX12_leftOn wd_1645 (by decide) dX12_count_33 at_928 jc_12 rfl rfl rfl (Nat.le_of_ble_eq_true rfl) (jroom (by decide)) rfl (m_leftOn hI.2.1 (by omega) ?_)
            dsimp only [jpush]
            refine e_iret dX12_count_36 ?_
            first
              | (exact ⟨by omega, hI⟩)
              | (exfalso; omega)
              | (exact ⟨rfl, hI⟩))
      · dsimp only [jpush]
        first
         | (exfalso; omega)
         | (skip
            refine e_if_eq 28 37 dX12_count_25 (by decide) (by decide) rfl (fun _ => ?_) (fun h => absurd h (by decide))
            refine e_iload_n (i := 1) 38 dX12_count_37 rfl rfl rfl ?_
            refine e_tsw 198 dX12_count_38 (by omega) (by decide) (fun c0 hc0 hz0 => ?_) (fun b38 => ?_)
            · have hcc : c0 = 0 ∨ c0 = 1 ∨ c0 = 2 ∨ c0 = 3 ∨ c0 = 4 ∨ c0 = 5 ∨ c0 = 6 ∨ c0 = 7 ∨ c0 = 8 ∨ c0 = 9 ∨ c0 = 10 ∨ c0 = 11 := by omega
              rcases hcc with b38 | b38 | b38 | b38 | b38 | b38 | b38 | b38 | b38 | b38 | b38 | b38
              · subst b38
                refine ⟨_, 100, rfl, by decide, ?_⟩
                first
                 | (exfalso; omega)
                 | (skip
                    refine e_aload_n (i := 0) 101 dX12_count_100 rfl rfl rfl ?_
                    refine e_getr (j := 1) 104 fl_12_13 dX12_count_101 at_928 rfl rfl tp_928_1 rfl ?_
                    refine e_sipush 107 dX12_count_104 (by decide) rfl ?_
                    refine e_iald 108 dX12_count_107 ar_929 (by decide) (by decide) rfl (fun r107 => ?_)
                    refine e_iret dX12_count_108 ?_
                    first
                      | (exact ⟨by omega, hI⟩)
                      | (exfalso; omega)
                      | (exact ⟨rfl, hI⟩))
              · subst b38
                refine ⟨_, 109, rfl, by decide, ?_⟩
                first
                 | (exfalso; omega)
                 | (skip
                    refine e_aload_n (i := 0) 110 dX12_count_109 rfl rfl rfl ?_
                    refine e_getr (j := 1) 113 fl_12_13 dX12_count_110 at_928 rfl rfl tp_928_1 rfl ?_
                    refine e_sipush 116 dX12_count_113 (by decide) rfl ?_
                    refine e_iald 117 dX12_count_116 ar_929 (by decide) (by decide) rfl (fun r116 => ?_)
                    refine e_iret dX12_count_117 ?_
                    first
                      | (exact ⟨by omega, hI⟩)
                      | (exfalso; omega)
                      | (exact ⟨rfl, hI⟩))
              · subst b38
                refine ⟨_, 118, rfl, by decide, ?_⟩
                first
                 | (exfalso; omega)
                 | (skip
                    refine e_aload_n (i := 0) 119 dX12_count_118 rfl rfl rfl ?_
                    refine e_getr (j := 1) 122 fl_12_13 dX12_count_119 at_928 rfl rfl tp_928_1 rfl ?_
                    refine e_sipush 125 dX12_count_122 (by decide) rfl ?_
                    refine e_iald 126 dX12_count_125 ar_929 (by decide) (by decide) rfl (fun r125 => ?_)
                    refine e_iret dX12_count_126 ?_
                    first
                      | (exact ⟨by omega, hI⟩)
                      | (exfalso; omega)
                      | (exact ⟨rfl, hI⟩))
              · subst b38
                refine ⟨_, 127, rfl, by decide, ?_⟩
                first
                 | (exfalso; omega)
                 | (skip
                    refine e_aload_n (i := 0) 128 dX12_count_127 rfl rfl rfl ?_
                    refine e_getr (j := 1) 131 fl_12_13 dX12_count_128 at_928 rfl rfl tp_928_1 rfl ?_
                    refine e_sipush 134 dX12_count_131 (by decide) rfl ?_
                    refine e_iald 135 dX12_count_134 ar_929 (by decide) (by decide) rfl (fun r134 => ?_)
                    refine e_iret dX12_count_135 ?_
                    first
                      | (exact ⟨by omega, hI⟩)
                      | (exfalso; omega)
                      | (exact ⟨rfl, hI⟩))
              · subst b38
                refine ⟨_, 136, rfl, by decide, ?_⟩
                first
                 | (exfalso; omega)
                 | (skip
                    refine e_aload_n (i := 0) 137 dX12_count_136 rfl rfl rfl ?_
                    refine e_getr (j := 1) 140 fl_12_13 dX12_count_137 at_928 rfl rfl tp_928_1 rfl ?_
                    refine e_sipush 143 dX12_count_140 (by decide) rfl ?_
                    refine e_iald 144 dX12_count_143 ar_929 (by decide) (by decide) rfl (fun r143 => ?_)
                    refine e_iret dX12_count_144 ?_
                    first
                      | (exact ⟨by omega, hI⟩)
                      | (exfalso; omega)
                      | (exact ⟨rfl, hI⟩))
              · subst b38
                refine ⟨_, 145, rfl, by decide, ?_⟩
                first
                 | (exfalso; omega)
                 | (skip
                    refine e_aload_n (i := 0) 146 dX12_count_145 rfl rfl rfl ?_
                    refine e_getr (j := 1) 149 fl_12_13 dX12_count_146 at_928 rfl rfl tp_928_1 rfl ?_
                    refine e_bipush 151 dX12_count_149 (by decide) rfl ?_
                    refine e_iald 152 dX12_count_151 ar_929 (by decide) (by decide) rfl (fun r151 => ?_)
                    refine e_iret dX12_count_152 ?_
                    first
                      | (exact ⟨by omega, hI⟩)
                      | (exfalso; omega)
                      | (exact ⟨rfl, hI⟩))
              · subst b38
                refine ⟨_, 153, rfl, by decide, ?_⟩
                first
                 | (exfalso; omega)
                 | (skip
                    refine e_aload_n (i := 0) 154 dX12_count_153 rfl rfl rfl ?_
                    refine e_getr (j := 1) 157 fl_12_13 dX12_count_154 at_928 rfl rfl tp_928_1 rfl ?_
                    refine e_bipush 159 dX12_count_157 (by decide) rfl ?_
                    refine e_iald 160 dX12_count_159 ar_929 (by decide) (by decide) rfl (fun r159 => ?_)
                    refine e_iret dX12_count_160 ?_
                    first
                      | (exact ⟨by omega, hI⟩)
                      | (exfalso; omega)
                      | (exact ⟨rfl, hI⟩))
              · subst b38
                refine ⟨_, 161, rfl, by decide, ?_⟩
                first
                 | (exfalso; omega)
                 | (skip
                    refine e_aload_n (i := 0) 162 dX12_count_161 rfl rfl rfl ?_
                    refine e_geti (j := 5) 165 fl_12_79 dX12_count_162 at_928 (by decide) rfl rfl (fun r162 => ?_)
                    refine e_iret dX12_count_165 ?_
                    first
                      | (exact ⟨by omega, hI⟩)
                      | (exfalso; omega)
                      | (exact ⟨rfl, hI⟩))
              · subst b38
                refine ⟨_, 166, rfl, by decide, ?_⟩
                first
                 | (exfalso; omega)
                 | (skip
                    refine e_aload_n (i := 0) 167 dX12_count_166 rfl rfl rfl ?_
                    refine e_getr (j := 1) 170 fl_12_13 dX12_count_167 at_928 rfl rfl tp_928_1 rfl ?_
                    refine e_sipush 173 dX12_count_170 (by decide) rfl ?_
                    refine e_iald 174 dX12_count_173 ar_929 (by decide) (by decide) rfl (fun r173 => ?_)
                    refine e_iret dX12_count_174 ?_
                    first
                      | (exact ⟨by omega, hI⟩)
                      | (exfalso; omega)
                      | (exact ⟨rfl, hI⟩))
              · subst b38
                refine ⟨_, 175, rfl, by decide, ?_⟩
                first
                 | (exfalso; omega)
                 | (skip
                    refine e_aload_n (i := 0) 176 dX12_count_175 rfl rfl rfl ?_
                    refine e_callV 179 mt_yX12_hereOf mv_yX12_hereOf wd_1834 (by decide) dX12_count_176 at_928 jc_12 rfl rfl rfl (Nat.le_of_ble_eq_true rfl) (jroom (by decide)) rfl (m_hereOf hC ?_)
                    dsimp only [jpush]
                    refine e_iret dX12_count_179 ?_
                    first
                      | (exact ⟨by omega, hI⟩)
                      | (exfalso; omega)
                      | (exact ⟨rfl, hI⟩))
              · subst b38
                refine ⟨_, 180, rfl, by decide, ?_⟩
                first
                 | (exfalso; omega)
                 | (skip
                    refine e_aload_n (i := 0) 181 dX12_count_180 rfl rfl rfl ?_
                    refine e_getr (j := 1) 184 fl_12_13 dX12_count_181 at_928 rfl rfl tp_928_1 rfl ?_
                    refine e_sipush 187 dX12_count_184 (by decide) rfl ?_
                    refine e_iald 188 dX12_count_187 ar_929 (by decide) (by decide) rfl (fun r187 => ?_)
                    refine e_iret dX12_count_188 ?_
                    first
                      | (exact ⟨by omega, hI⟩)
                      | (exfalso; omega)
                      | (exact ⟨rfl, hI⟩))
              · subst b38
                refine ⟨_, 189, rfl, by decide, ?_⟩
                first
                 | (exfalso; omega)
                 | (skip
                    refine e_aload_n (i := 0) 190 dX12_count_189 rfl rfl rfl ?_
                    refine e_getr (j := 1) 193 fl_12_13 dX12_count_190 at_928 rfl rfl tp_928_1 rfl ?_
                    refine e_sipush 196 dX12_count_193 (by decide) rfl ?_
                    refine e_iald 197 dX12_count_196 ar_929 (by decide) (by decide) rfl (fun r196 => ?_)
                    refine e_iret dX12_count_197 ?_
                    first
                      | (exact ⟨by omega, hI⟩)
                      | (exfalso; omega)
                      | (exact ⟨rfl, hI⟩))
            · skip
              refine e_iconst 199 dX12_count_198 rfl ?_
              refine e_iret dX12_count_199 ?_
              first
                | (exact ⟨by omega, hI⟩)
                | (exfalso; omega)
                | (exact ⟨rfl, hI⟩))
    · subst b1
      refine ⟨_, 137, rfl, by decide, ?_⟩
      refine e_aload_n (i := 0) 138 dX11_count_137 rfl rfl rfl ?_
      refine e_getr (j := 0) 141 fl_11_10 dX11_count_138 at_0 rfl rfl tp_0_0 rfl ?_
      refine e_geti (j := 4) 144 fl_11_174 dX11_count_141 at_1 (by decide) rfl rfl (fun r141 => ?_)
      refine e_iret dX11_count_144 ?_
      refine jCt_of mt_yX12_count (Nat.le_of_ble_eq_true rfl) (fun X2 => ?_)
      refine e_aload_n (i := 0) 1 dX12_count_0 rfl rfl rfl ?_
      refine e_iconst 2 dX12_count_1 rfl ?_
      refine e_put0 (j := 0) 5 fl_12_1 dX12_count_2 at_928 rfl rfl rfl (by decide) hI.1 rfl ?_
      refine e_iload_n (i := 1) 6 dX12_count_5 rfl rfl rfl ?_
      refine e_i2l 7 dX12_count_6 (by omega) rfl ?_
      refine e_ldc2 (z := (20)) 10 (ix := 363) wd_1833 (by decide) dX12_count_7 rfl ?_
      refine e_bipush 12 dX12_count_10 (by decide) rfl ?_
      refine e_aload_n (i := 0) 13 dX12_count_12 rfl rfl rfl ?_
      refine e_getr (j := 1) 16 fl_12_13 dX12_count_13 at_928 rfl rfl tp_928_1 rfl ?_
      refine e_sipush 19 dX12_count_16 (by decide) rfl ?_
      refine e_iald 20 dX12_count_19 ar_929 (by decide) (by decide) rfl (fun r19 => ?_)
      refine e_iadd 21 dX12_count_20 rfl ?_
      refine e_i2l 22 dX12_count_21 (by omega) rfl ?_
      refine e_callS 25 mt_yX12_within ms_yX12_within wd_1390 (by decide) dX12_count_22 rfl rfl (Nat.le_of_ble_eq_true rfl) (jroom (by decide)) rfl (m_within (by omega) (by omega) (by omega) (fun w22 => ?_) (fun w22 => ?_))
      · dsimp only [jpush]
        first
         | (exfalso; omega)
         | (skip
            refine e_if_eq 28 37 dX12_count_25 (by decide) (by decide) rfl (fun h => absurd h (by decide)) (fun _ => ?_)
            refine e_aload_n (i := 0) 29 dX12_count_28 rfl rfl rfl ?_
            refine e_iload_n (i := 1) 30 dX12_count_29 rfl rfl rfl ?_
            refine e_bipush 32 dX12_count_30 (by decide) rfl ?_
            refine e_isub 33 dX12_count_32 rfl ?_
            refine e_callV 36 mt_yX12_leftOn mv_yX12_leftOn wd_1645 (by decide) dX12_count_33 at_928 jc_12 rfl rfl rfl (Nat.le_of_ble_eq_true rfl) (jroom (by decide)) rfl (m_leftOn hI.2.1 (by omega) ?_)
            dsimp only [jpush]
            refine e_iret dX12_count_36 ?_
            first
              | (exact ⟨by omega, hI⟩)
              | (exfalso; omega)
              | (exact ⟨rfl, hI⟩))
      · dsimp only [jpush]
        first
         | (exfalso; omega)
         | (skip
            refine e_if_eq 28 37 dX12_count_25 (by decide) (by decide) rfl (fun _ => ?_) (fun h => absurd h (by decide))
            refine e_iload_n (i := 1) 38 dX12_count_37 rfl rfl rfl ?_
            refine e_tsw 198 dX12_count_38 (by omega) (by decide) (fun c0 hc0 hz0 => ?_) (fun b38 => ?_)
            · have hcc : c0 = 0 ∨ c0 = 1 ∨ c0 = 2 ∨ c0 = 3 ∨ c0 = 4 ∨ c0 = 5 ∨ c0 = 6 ∨ c0 = 7 ∨ c0 = 8 ∨ c0 = 9 ∨ c0 = 10 ∨ c0 = 11 := by omega
              rcases hcc with b38 | b38 | b38 | b38 | b38 | b38 | b38 | b38 | b38 | b38 | b38 | b38
              · subst b38
                refine ⟨_, 100, rfl, by decide, ?_⟩
                first
                 | (exfalso; omega)
                 | (skip
                    refine e_aload_n (i := 0) 101 dX12_count_100 rfl rfl rfl ?_
                    refine e_getr (j := 1) 104 fl_12_13 dX12_count_101 at_928 rfl rfl tp_928_1 rfl ?_
                    refine e_sipush 107 dX12_count_104 (by decide) rfl ?_
                    refine e_iald 108 dX12_count_107 ar_929 (by decide) (by decide) rfl (fun r107 => ?_)
                    refine e_iret dX12_count_108 ?_
                    first
                      | (exact ⟨by omega, hI⟩)
                      | (exfalso; omega)
                      | (exact ⟨rfl, hI⟩))
              · subst b38
                refine ⟨_, 109, rfl, by decide, ?_⟩
                first
                 | (exfalso; omega)
                 | (skip
                    refine e_aload_n (i := 0) 110 dX12_count_109 rfl rfl rfl ?_
                    refine e_getr (j := 1) 113 fl_12_13 dX12_count_110 at_928 rfl rfl tp_928_1 rfl ?_
                    refine e_sipush 116 dX12_count_113 (by decide) rfl ?_
                    refine e_iald 117 dX12_count_116 ar_929 (by decide) (by decide) rfl (fun r116 => ?_)
                    refine e_iret dX12_count_117 ?_
                    first
                      | (exact ⟨by omega, hI⟩)
                      | (exfalso; omega)
                      | (exact ⟨rfl, hI⟩))
              · subst b38
                refine ⟨_, 118, rfl, by decide, ?_⟩
                first
                 | (exfalso; omega)
                 | (skip
                    refine e_aload_n (i := 0) 119 dX12_count_118 rfl rfl rfl ?_
                    refine e_getr (j := 1) 122 fl_12_13 dX12_count_119 at_928 rfl rfl tp_928_1 rfl ?_
                    refine e_sipush 125 dX12_count_122 (by decide) rfl ?_
                    refine e_iald 126 dX12_count_125 ar_929 (by decide) (by decide) rfl (fun r125 => ?_)
                    refine e_iret dX12_count_126 ?_
                    first
                      | (exact ⟨by omega, hI⟩)
                      | (exfalso; omega)
                      | (exact ⟨rfl, hI⟩))
              · subst b38
                refine ⟨_, 127, rfl, by decide, ?_⟩
                first
                 | (exfalso; omega)
                 | (skip
                    refine e_aload_n (i := 0) 128 dX12_count_127 rfl rfl rfl ?_
                    refine e_getr (j := 1) 131 fl_12_13 dX12_count_128 at_928 rfl rfl tp_928_1 rfl ?_
                    refine e_sipush 134 dX12_count_131 (by decide) rfl ?_
                    refine e_iald 135 dX12_count_134 ar_929 (by decide) (by decide) rfl (fun r134 => ?_)
                    refine e_iret dX12_count_135 ?_
                    first
                      | (exact ⟨by omega, hI⟩)
                      | (exfalso; omega)
                      | (exact ⟨rfl, hI⟩))
              · subst b38
                refine ⟨_, 136, rfl, by decide, ?_⟩
                first
                 | (exfalso; omega)
                 | (skip
                    refine e_aload_n (i := 0) 137 dX12_count_136 rfl rfl rfl ?_
                    refine e_getr (j := 1) 140 fl_12_13 dX12_count_137 at_928 rfl rfl tp_928_1 rfl ?_
                    refine e_sipush 143 dX12_count_140 (by decide) rfl ?_
                    refine e_iald 144 dX12_count_143 ar_929 (by decide) (by decide) rfl (fun r143 => ?_)
                    refine e_iret dX12_count_144 ?_
                    first
                      | (exact ⟨by omega, hI⟩)
                      | (exfalso; omega)
                      | (exact ⟨rfl, hI⟩))
              · subst b38
                refine ⟨_, 145, rfl, by decide, ?_⟩
                first
                 | (exfalso; omega)
                 | (skip
                    refine e_aload_n (i := 0) 146 dX12_count_145 rfl rfl rfl ?_
                    refine e_getr (j := 1) 149 fl_12_13 dX12_count_146 at_928 rfl rfl tp_928_1 rfl ?_
                    refine e_bipush 151 dX12_count_149 (by decide) rfl ?_
                    refine e_iald 152 dX12_count_151 ar_929 (by decide) (by decide) rfl (fun r151 => ?_)
                    refine e_iret dX12_count_152 ?_
                    first
                      | (exact ⟨by omega, hI⟩)
                      | (exfalso; omega)
                      | (exact ⟨rfl, hI⟩))
              · subst b38
                refine ⟨_, 153, rfl, by decide, ?_⟩
                first
                 | (exfalso; omega)
                 | (skip
                    refine e_aload_n (i := 0) 154 dX12_count_153 rfl rfl rfl ?_
                    refine e_getr (j := 1) 157 fl_12_13 dX12_count_154 at_928 rfl rfl tp_928_1 rfl ?_
                    refine e_bipush 159 dX12_count_157 (by decide) rfl ?_
                    refine e_iald 160 dX12_count_159 ar_929 (by decide) (by decide) rfl (fun r159 => ?_)
                    refine e_iret dX12_count_160 ?_
                    first
                      | (exact ⟨by omega, hI⟩)
                      | (exfalso; omega)
                      | (exact ⟨rfl, hI⟩))
              · subst b38
                refine ⟨_, 161, rfl, by decide, ?_⟩
                first
                 | (exfalso; omega)
                 | (skip
                    refine e_aload_n (i := 0) 162 dX12_count_161 rfl rfl rfl ?_
                    refine e_geti (j := 5) 165 fl_12_79 dX12_count_162 at_928 (by decide) rfl rfl (fun r162 => ?_)
                    refine e_iret dX12_count_165 ?_
                    first
                      | (exact ⟨by omega, hI⟩)
                      | (exfalso; omega)
                      | (exact ⟨rfl, hI⟩))
              · subst b38
                refine ⟨_, 166, rfl, by decide, ?_⟩
                first
                 | (exfalso; omega)
                 | (skip
                    refine e_aload_n (i := 0) 167 dX12_count_166 rfl rfl rfl ?_
                    refine e_getr (j := 1) 170 fl_12_13 dX12_count_167 at_928 rfl rfl tp_928_1 rfl ?_
                    refine e_sipush 173 dX12_count_170 (by decide) rfl ?_
                    refine e_iald 174 dX12_count_173 ar_929 (by decide) (by decide) rfl (fun r173 => ?_)
                    refine e_iret dX12_count_174 ?_
                    first
                      | (exact ⟨by omega, hI⟩)
                      | (exfalso; omega)
                      | (exact ⟨rfl, hI⟩))
              · subst b38
                refine ⟨_, 175, rfl, by decide, ?_⟩
                first
                 | (exfalso; omega)
                 | (skip
                    refine e_aload_n (i := 0) 176 dX12_count_175 rfl rfl rfl ?_
                    refine e_callV 179 mt_yX12_hereOf mv_yX12_hereOf wd_1834 (by decide) dX12_count_176 at_928 jc_12 rfl rfl rfl (Nat.le_of_ble_eq_true rfl) (jroom (by decide)) rfl (m_hereOf hC ?_)
                    dsimp only [jpush]
                    refine e_iret dX12_count_179 ?_
                    first
                      | (exact ⟨by omega, hI⟩)
                      | (exfalso; omega)
                      | (exact ⟨rfl, hI⟩))
              · subst b38
                refine ⟨_, 180, rfl, by decide, ?_⟩
                first
                 | (exfalso; omega)
                 | (skip
                    refine e_aload_n (i := 0) 181 dX12_count_180 rfl rfl rfl ?_
                    refine e_getr (j := 1) 184 fl_12_13 dX12_count_181 at_928 rfl rfl tp_928_1 rfl ?_
                    refine e_sipush 187 dX12_count_184 (by decide) rfl ?_
                    refine e_iald 188 dX12_count_187 ar_929 (by decide) (by decide) rfl (fun r187 => ?_)
                    refine e_iret dX12_count_188 ?_
                    first
                      | (exact ⟨by omega, hI⟩)
                      | (exfalso; omega)
                      | (exact ⟨rfl, hI⟩))
              · subst b38
                refine ⟨_, 189, rfl, by decide, ?_⟩
                first
                 | (exfalso; omega)
                 | (skip
                    refine e_aload_n (i := 0) 190 dX12_count_189 rfl rfl rfl ?_
                    refine e_getr (j := 1) 193 fl_12_13 dX12_count_190 at_928 rfl rfl tp_928_1 rfl ?_
                    refine e_sipush 196 dX12_count_193 (by decide) rfl ?_
                    refine e_iald 197 dX12_count_196 ar_929 (by decide) (by decide) rfl (fun r196 => ?_)
                    refine e_iret dX12_count_197 ?_
                    first
                      | (exact ⟨by omega, hI⟩)
                      | (exfalso; omega)
                      | (exact ⟨rfl, hI⟩))
            · skip
              refine e_iconst 199 dX12_count_198 rfl ?_
              refine e_iret dX12_count_199 ?_
              first
                | (exact ⟨by omega, hI⟩)
                | (exfalso; omega)
                | (exact ⟨rfl, hI⟩))
    · subst b1
      refine ⟨_, 145, rfl, by decide, ?_⟩
      refine e_aload_n (i := 0) 146 dX11_count_145 rfl rfl rfl ?_
      refine e_getr (j := 0) 149 fl_11_10 dX11_count_146 at_0 rfl rfl tp_0_0 rfl ?_
      refine e_callV 152 mt_yX8_countHere mv_yX8_countHere wd_1269 (by decide) dX11_count_149 at_1 jc_8 rfl rfl rfl (Nat.le_of_ble_eq_true rfl) (jroom (by decide)) rfl (c_countHere hC ?_)
      dsimp only [jpush]
      refine e_iret dX11_count_152 ?_
      refine jCt_of mt_yX12_count (Nat.le_of_ble_eq_true rfl) (fun X2 => ?_)
      refine e_aload_n (i := 0) 1 dX12_count_0 rfl rfl rfl ?_
      refine e_iconst 2 dX12_count_1 rfl ?_
      refine e_put0 (j := 0) 5 fl_12_1 dX12_count_2 at_928 rfl rfl rfl (by decide) hI.1 rfl ?_
      refine e_iload_n (i := 1) 6 dX12_count_5 rfl rfl rfl ?_
      refine e_i2l 7 dX12_count_6 (by omega) rfl ?_
      refine e_ldc2 (z := (20)) 10 (ix := 363) wd_1833 (by decide) dX12_count_7 rfl ?_
      refine e_bipush 12 dX12_count_10 (by decide) rfl ?_
      refine e_aload_n (i := 0) 13 dX12_count_12 rfl rfl rfl ?_
      refine e_getr (j := 1) 16 fl_12_13 dX12_count_13 at_928 rfl rfl tp_928_1 rfl ?_
      refine e_sipush 19 dX12_count_16 (by decide) rfl ?_
      refine e_iald 20 dX12_count_19 ar_929 (by decide) (by decide) rfl (fun r19 => ?_)
      refine e_iadd 21 dX12_count_20 rfl ?_
      refine e_i2l 22 dX12_count_21 (by omega) rfl ?_
      refine e_callS 25 mt_yX12_within ms_yX12_within wd_1390 (by decide) dX12_count_22 rfl rfl (Nat.le_of_ble_eq_true rfl) (jroom (by decide)) rfl (m_within (by omega) (by omega) (by omega) (fun w22 => ?_) (fun w22 => ?_))
      · dsimp only [jpush]
        first
         | (exfalso; omega)
         | (skip
            refine e_if_eq 28 37 dX12_count_25 (by decide) (by decide) rfl (fun h => absurd h (by decide)) (fun _ => ?_)
            refine e_aload_n (i := 0) 29 dX12_count_28 rfl rfl rfl ?_
            refine e_iload_n (i := 1) 30 dX12_count_29 rfl rfl rfl ?_
            refine e_bipush 32 dX12_count_30 (by decide) rfl ?_
            refine e_isub 33 dX12_count_32 rfl ?_
            refine e_callV 36 mt_yX12_leftOn mv_yX12_leftOn wd_1645 (by decide) dX12_count_33 at_928 jc_12 rfl rfl rfl (Nat.le_of_ble_eq_true rfl) (jroom (by decide)) rfl (m_leftOn hI.2.1 (by omega) ?_)
            dsimp only [jpush]
            refine e_iret dX12_count_36 ?_
            first
              | (exact ⟨by omega, hI⟩)
              | (exfalso; omega)
              | (exact ⟨rfl, hI⟩))
      · dsimp only [jpush]
        first
         | (exfalso; omega)
         | (skip
            refine e_if_eq 28 37 dX12_count_25 (by decide) (by decide) rfl (fun _ => ?_) (fun h => absurd h (by decide))
            refine e_iload_n (i := 1) 38 dX12_count_37 rfl rfl rfl ?_
            refine e_tsw 198 dX12_count_38 (by omega) (by decide) (fun c0 hc0 hz0 => ?_) (fun b38 => ?_)
            · have hcc : c0 = 0 ∨ c0 = 1 ∨ c0 = 2 ∨ c0 = 3 ∨ c0 = 4 ∨ c0 = 5 ∨ c0 = 6 ∨ c0 = 7 ∨ c0 = 8 ∨ c0 = 9 ∨ c0 = 10 ∨ c0 = 11 := by omega
              rcases hcc with b38 | b38 | b38 | b38 | b38 | b38 | b38 | b38 | b38 | b38 | b38 | b38
              · subst b38
                refine ⟨_, 100, rfl, by decide, ?_⟩
                first
                 | (exfalso; omega)
                 | (skip
                    refine e_aload_n (i := 0) 101 dX12_count_100 rfl rfl rfl ?_
                    refine e_getr (j := 1) 104 fl_12_13 dX12_count_101 at_928 rfl rfl tp_928_1 rfl ?_
                    refine e_sipush 107 dX12_count_104 (by decide) rfl ?_
                    refine e_iald 108 dX12_count_107 ar_929 (by decide) (by decide) rfl (fun r107 => ?_)
                    refine e_iret dX12_count_108 ?_
                    first
                      | (exact ⟨by omega, hI⟩)
                      | (exfalso; omega)
                      | (exact ⟨rfl, hI⟩))
              · subst b38
                refine ⟨_, 109, rfl, by decide, ?_⟩
                first
                 | (exfalso; omega)
                 | (skip
                    refine e_aload_n (i := 0) 110 dX12_count_109 rfl rfl rfl ?_
                    refine e_getr (j := 1) 113 fl_12_13 dX12_count_110 at_928 rfl rfl tp_928_1 rfl ?_
                    refine e_sipush 116 dX12_count_113 (by decide) rfl ?_
                    refine e_iald 117 dX12_count_116 ar_929 (by decide) (by decide) rfl (fun r116 => ?_)
                    refine e_iret dX12_count_117 ?_
                    first
                      | (exact ⟨by omega, hI⟩)
                      | (exfalso; omega)
                      | (exact ⟨rfl, hI⟩))
              · subst b38
                refine ⟨_, 118, rfl, by decide, ?_⟩
                first
                 | (exfalso; omega)
                 | (skip
                    refine e_aload_n (i := 0) 119 dX12_count_118 rfl rfl rfl ?_
                    refine e_getr (j := 1) 122 fl_12_13 dX12_count_119 at_928 rfl rfl tp_928_1 rfl ?_
                    refine e_sipush 125 dX12_count_122 (by decide) rfl ?_
                    refine e_iald 126 dX12_count_125 ar_929 (by decide) (by decide) rfl (fun r125 => ?_)
                    refine e_iret dX12_count_126 ?_
                    first
                      | (exact ⟨by omega, hI⟩)
                      | (exfalso; omega)
                      | (exact ⟨rfl, hI⟩))
              · subst b38
                refine ⟨_, 127, rfl, by decide, ?_⟩
                first
                 | (exfalso; omega)
                 | (skip
                    refine e_aload_n (i := 0) 128 dX12_count_127 rfl rfl rfl ?_
                    refine e_getr (j := 1) 131 fl_12_13 dX12_count_128 at_928 rfl rfl tp_928_1 rfl ?_
                    refine e_sipush 134 dX12_count_131 (by decide) rfl ?_
                    refine e_iald 135 dX12_count_134 ar_929 (by decide) (by decide) rfl (fun r134 => ?_)
                    refine e_iret dX12_count_135 ?_
                    first
                      | (exact ⟨by omega, hI⟩)
                      | (exfalso; omega)
                      | (exact ⟨rfl, hI⟩))
              · subst b38
                refine ⟨_, 136, rfl, by decide, ?_⟩
                first
                 | (exfalso; omega)
                 | (skip
                    refine e_aload_n (i := 0) 137 dX12_count_136 rfl rfl rfl ?_
                    refine e_getr (j := 1) 140 fl_12_13 dX12_count_137 at_928 rfl rfl tp_928_1 rfl ?_
                    refine e_sipush 143 dX12_count_140 (by decide) rfl ?_
                    refine e_iald 144 dX12_count_143 ar_929 (by decide) (by decide) rfl (fun r143 => ?_)
                    refine e_iret dX12_count_144 ?_
                    first
                      | (exact ⟨by omega, hI⟩)
                      | (exfalso; omega)
                      | (exact ⟨rfl, hI⟩))
              · subst b38
                refine ⟨_, 145, rfl, by decide, ?_⟩
                first
                 | (exfalso; omega)
                 | (skip
                    refine e_aload_n (i := 0) 146 dX12_count_145 rfl rfl rfl ?_
                    refine e_getr (j := 1) 149 fl_12_13 dX12_count_146 at_928 rfl rfl tp_928_1 rfl ?_
                    refine e_bipush 151 dX12_count_149 (by decide) rfl ?_
                    refine e_iald 152 dX12_count_151 ar_929 (by decide) (by decide) rfl (fun r151 => ?_)
                    refine e_iret dX12_count_152 ?_
                    first
                      | (exact ⟨by omega, hI⟩)
                      | (exfalso; omega)
                      | (exact ⟨rfl, hI⟩))
              · subst b38
                refine ⟨_, 153, rfl, by decide, ?_⟩
                first
                 | (exfalso; omega)
                 | (skip
                    refine e_aload_n (i := 0) 154 dX12_count_153 rfl rfl rfl ?_
                    refine e_getr (j := 1) 157 fl_12_13 dX12_count_154 at_928 rfl rfl tp_928_1 rfl ?_
                    refine e_bipush 159 dX12_count_157 (by decide) rfl ?_
                    refine e_iald 160 dX12_count_159 ar_929 (by decide) (by decide) rfl (fun r159 => ?_)
                    refine e_iret dX12_count_160 ?_
                    first
                      | (exact ⟨by omega, hI⟩)
                      | (exfalso; omega)
                      | (exact ⟨rfl, hI⟩))
              · subst b38
                refine ⟨_, 161, rfl, by decide, ?_⟩
                first
                 | (exfalso; omega)
                 | (skip
                    refine e_aload_n (i := 0) 162 dX12_count_161 rfl rfl rfl ?_
                    refine e_geti (j := 5) 165 fl_12_79 dX12_count_162 at_928 (by decide) rfl rfl (fun r162 => ?_)
                    refine e_iret dX12_count_165 ?_
                    first
                      | (exact ⟨by omega, hI⟩)
                      | (exfalso; omega)
                      | (exact ⟨rfl, hI⟩))
              · subst b38
                refine ⟨_, 166, rfl, by decide, ?_⟩
                first
                 | (exfalso; omega)
                 | (skip
                    refine e_aload_n (i := 0) 167 dX12_count_166 rfl rfl rfl ?_
                    refine e_getr (j := 1) 170 fl_12_13 dX12_count_167 at_928 rfl rfl tp_928_1 rfl ?_
                    refine e_sipush 173 dX12_count_170 (by decide) rfl ?_
                    refine e_iald 174 dX12_count_173 ar_929 (by decide) (by decide) rfl (fun r173 => ?_)
                    refine e_iret dX12_count_174 ?_
                    first
                      | (exact ⟨by omega, hI⟩)
                      | (exfalso; omega)
                      | (exact ⟨rfl, hI⟩))
              · subst b38
                refine ⟨_, 175, rfl, by decide, ?_⟩
                first
                 | (exfalso; omega)
                 | (skip
                    refine e_aload_n (i := 0) 176 dX12_count_175 rfl rfl rfl ?_
                    refine e_callV 179 mt_yX12_hereOf mv_yX12_hereOf wd_1834 (by decide) dX12_count_176 at_928 jc_12 rfl rfl rfl (Nat.le_of_ble_eq_true rfl) (jroom (by decide)) rfl (m_hereOf hC ?_)
                    dsimp only [jpush]
                    refine e_iret dX12_count_179 ?_
                    first
                      | (exact ⟨by omega, hI⟩)
                      | (exfalso; omega)
                      | (exact ⟨rfl, hI⟩))
              · subst b38
                refine ⟨_, 180, rfl, by decide, ?_⟩
                first
                 | (exfalso; omega)
                 | (skip
                    refine e_aload_n (i := 0) 181 dX12_count_180 rfl rfl rfl ?_
                    refine e_getr (j := 1) 184 fl_12_13 dX12_count_181 at_928 rfl rfl tp_928_1 rfl ?_
                    refine e_sipush 187 dX12_count_184 (by decide) rfl ?_
                    refine e_iald 188 dX12_count_187 ar_929 (by decide) (by decide) rfl (fun r187 => ?_)
                    refine e_iret dX12_count_188 ?_
                    first
                      | (exact ⟨by omega, hI⟩)
                      | (exfalso; omega)
                      | (exact ⟨rfl, hI⟩))
              · subst b38
                refine ⟨_, 189, rfl, by decide, ?_⟩
                first
                 | (exfalso; omega)
                 | (skip
                    refine e_aload_n (i := 0) 190 dX12_count_189 rfl rfl rfl ?_
                    refine e_getr (j := 1) 193 fl_12_13 dX12_count_190 at_928 rfl rfl tp_928_1 rfl ?_
                    refine e_sipush 196 dX12_count_193 (by decide) rfl ?_
                    refine e_iald 197 dX12_count_196 ar_929 (by decide) (by decide) rfl (fun r196 => ?_)
                    refine e_iret dX12_count_197 ?_
                    first
                      | (exact ⟨by omega, hI⟩)
                      | (exfalso; omega)
                      | (exact ⟨rfl, hI⟩))
            · skip
              refine e_iconst 199 dX12_count_198 rfl ?_
              refine e_iret dX12_count_199 ?_
              first
                | (exact ⟨by omega, hI⟩)
                | (exfalso; omega)
                | (exact ⟨rfl, hI⟩))
    · subst b1
      refine ⟨_, 153, rfl, by decide, ?_⟩
      refine e_aload_n (i := 0) 154 dX11_count_153 rfl rfl rfl ?_
      refine e_getr (j := 0) 157 fl_11_10 dX11_count_154 at_0 rfl rfl tp_0_0 rfl ?_
      refine e_geti (j := 19) 160 fl_11_416 dX11_count_157 at_1 (by decide) rfl rfl (fun r157 => ?_)
      refine e_iret dX11_count_160 ?_
      refine jCt_of mt_yX12_count (Nat.le_of_ble_eq_true rfl) (fun X2 => ?_)
      refine e_aload_n (i := 0) 1 dX12_count_0 rfl rfl rfl ?_
      refine e_iconst 2 dX12_count_1 rfl ?_
      refine e_put0 (j := 0) 5 fl_12_1 dX12_count_2 at_928 rfl rfl rfl (by decide) hI.1 rfl ?_
      refine e_iload_n (i := 1) 6 dX12_count_5 rfl rfl rfl ?_
      refine e_i2l 7 dX12_count_6 (by omega) rfl ?_
      refine e_ldc2 (z := (20)) 10 (ix := 363) wd_1833 (by decide) dX12_count_7 rfl ?_
      refine e_bipush 12 dX12_count_10 (by decide) rfl ?_
      refine e_aload_n (i := 0) 13 dX12_count_12 rfl rfl rfl ?_
      refine e_getr (j := 1) 16 fl_12_13 dX12_count_13 at_928 rfl rfl tp_928_1 rfl ?_
      refine e_sipush 19 dX12_count_16 (by decide) rfl ?_
      refine e_iald 20 dX12_count_19 ar_929 (by decide) (by decide) rfl (fun r19 => ?_)
      refine e_iadd 21 dX12_count_20 rfl ?_
      refine e_i2l 22 dX12_count_21 (by omega) rfl ?_
      refine e_callS 25 mt_yX12_within ms_yX12_within wd_1390 (by decide) dX12_count_22 rfl rfl (Nat.le_of_ble_eq_true rfl) (jroom (by decide)) rfl (m_within (by omega) (by omega) (by omega) (fun w22 => ?_) (fun w22 => ?_))
      · dsimp only [jpush]
        first
         | (exfalso; omega)
         | (skip
            refine e_if_eq 28 37 dX12_count_25 (by decide) (by decide) rfl (fun h => absurd h (by decide)) (fun _ => ?_)
            refine e_aload_n (i := 0) 29 dX12_count_28 rfl rfl rfl ?_
            refine e_iload_n (i := 1) 30 dX12_count_29 rfl rfl rfl ?_
            refine e_bipush 32 dX12_count_30 (by decide) rfl ?_
            refine e_isub 33 dX12_count_32 rfl ?_
            refine e_callV 36 mt_yX12_leftOn mv_yX12_leftOn wd_1645 (by decide) dX12_count_33 at_928 jc_12 rfl rfl rfl (Nat.le_of_ble_eq_true rfl) (jroom (by decide)) rfl (m_leftOn hI.2.1 (by omega) ?_)
            dsimp only [jpush]
            refine e_iret dX12_count_36 ?_
            first
              | (exact ⟨by omega, hI⟩)
              | (exfalso; omega)
              | (exact ⟨rfl, hI⟩))
      · dsimp only [jpush]
        first
         | (exfalso; omega)
         | (skip
            refine e_if_eq 28 37 dX12_count_25 (by decide) (by decide) rfl (fun _ => ?_) (fun h => absurd h (by decide))
            refine e_iload_n (i := 1) 38 dX12_count_37 rfl rfl rfl ?_
            refine e_tsw 198 dX12_count_38 (by omega) (by decide) (fun c0 hc0 hz0 => ?_) (fun b38 => ?_)
            · have hcc : c0 = 0 ∨ c0 = 1 ∨ c0 = 2 ∨ c0 = 3 ∨ c0 = 4 ∨ c0 = 5 ∨ c0 = 6 ∨ c0 = 7 ∨ c0 = 8 ∨ c0 = 9 ∨ c0 = 10 ∨ c0 = 11 := by omega
              rcases hcc with b38 | b38 | b38 | b38 | b38 | b38 | b38 | b38 | b38 | b38 | b38 | b38
              · subst b38
                refine ⟨_, 100, rfl, by decide, ?_⟩
                first
                 | (exfalso; omega)
                 | (skip
                    refine e_aload_n (i := 0) 101 dX12_count_100 rfl rfl rfl ?_
                    refine e_getr (j := 1) 104 fl_12_13 dX12_count_101 at_928 rfl rfl tp_928_1 rfl ?_
                    refine e_sipush 107 dX12_count_104 (by decide) rfl ?_
                    refine e_iald 108 dX12_count_107 ar_929 (by decide) (by decide) rfl (fun r107 => ?_)
                    refine e_iret dX12_count_108 ?_
                    first
                      | (exact ⟨by omega, hI⟩)
                      | (exfalso; omega)
                      | (exact ⟨rfl, hI⟩))
              · subst b38
                refine ⟨_, 109, rfl, by decide, ?_⟩
                first
                 | (exfalso; omega)
                 | (skip
                    refine e_aload_n (i := 0) 110 dX12_count_109 rfl rfl rfl ?_
                    refine e_getr (j := 1) 113 fl_12_13 dX12_count_110 at_928 rfl rfl tp_928_1 rfl ?_
                    refine e_sipush 116 dX12_count_113 (by decide) rfl ?_
                    refine e_iald 117 dX12_count_116 ar_929 (by decide) (by decide) rfl (fun r116 => ?_)
                    refine e_iret dX12_count_117 ?_
                    first
                      | (exact ⟨by omega, hI⟩)
                      | (exfalso; omega)
                      | (exact ⟨rfl, hI⟩))
              · subst b38
                refine ⟨_, 118, rfl, by decide, ?_⟩
                first
                 | (exfalso; omega)
                 | (skip
                    refine e_aload_n (i := 0) 119 dX12_count_118 rfl rfl rfl ?_
                    refine e_getr (j := 1) 122 fl_12_13 dX12_count_119 at_928 rfl rfl tp_928_1 rfl ?_
                    refine e_sipush 125 dX12_count_122 (by decide) rfl ?_
                    refine e_iald 126 dX12_count_125 ar_929 (by decide) (by decide) rfl (fun r125 => ?_)
                    refine e_iret dX12_count_126 ?_
                    first
                      | (exact ⟨by omega, hI⟩)
                      | (exfalso; omega)
                      | (exact ⟨rfl, hI⟩))
              · subst b38
                refine ⟨_, 127, rfl, by decide, ?_⟩
                first
                 | (exfalso; omega)
                 | (skip
                    refine e_aload_n (i := 0) 128 dX12_count_127 rfl rfl rfl ?_
                    refine e_getr (j := 1) 131 fl_12_13 dX12_count_128 at_928 rfl rfl tp_928_1 rfl ?_
                    refine e_sipush 134 dX12_count_131 (by decide) rfl ?_
                    refine e_iald 135 dX12_count_134 ar_929 (by decide) (by decide) rfl (fun r134 => ?_)
                    refine e_iret dX12_count_135 ?_
                    first
                      | (exact ⟨by omega, hI⟩)
                      | (exfalso; omega)
                      | (exact ⟨rfl, hI⟩))
              · subst b38
                refine ⟨_, 136, rfl, by decide, ?_⟩
                first
                 | (exfalso; omega)
                 | (skip
                    refine e_aload_n (i := 0) 137 dX12_count_136 rfl rfl rfl ?_
                    refine e_getr (j := 1) 140 fl_12_13 dX12_count_137 at_928 rfl rfl tp_928_1 rfl ?_
                    refine e_sipush 143 dX12_count_140 (by decide) rfl ?_
                    refine e_iald 144 dX12_count_143 ar_929 (by decide) (by decide) rfl (fun r143 => ?_)
                    refine e_iret dX12_count_144 ?_
                    first
                      | (exact ⟨by omega, hI⟩)
                      | (exfalso; omega)
                      | (exact ⟨rfl, hI⟩))
              · subst b38
                refine ⟨_, 145, rfl, by decide, ?_⟩
                first
                 | (exfalso; omega)
                 | (skip
                    refine e_aload_n (i := 0) 146 dX12_count_145 rfl rfl rfl ?_
                    refine e_getr (j := 1) 149 fl_12_13 dX12_count_146 at_928 rfl rfl tp_928_1 rfl ?_
                    refine e_bipush 151 dX12_count_149 (by decide) rfl ?_
                    refine e_iald 152 dX12_count_151 ar_929 (by decide) (by decide) rfl (fun r151 => ?_)
                    refine e_iret dX12_count_152 ?_
                    first
                      | (exact ⟨by omega, hI⟩)
                      | (exfalso; omega)
                      | (exact ⟨rfl, hI⟩))
              · subst b38
                refine ⟨_, 153, rfl, by decide, ?_⟩
                first
                 | (exfalso; omega)
                 | (skip
                    refine e_aload_n (i := 0) 154 dX12_count_153 rfl rfl rfl ?_
                    refine e_getr (j := 1) 157 fl_12_13 dX12_count_154 at_928 rfl rfl tp_928_1 rfl ?_
                    refine e_bipush 159 dX12_count_157 (by decide) rfl ?_
                    refine e_iald 160 dX12_count_159 ar_929 (by decide) (by decide) rfl (fun r159 => ?_)
                    refine e_iret dX12_count_160 ?_
                    first
                      | (exact ⟨by omega, hI⟩)
                      | (exfalso; omega)
                      | (exact ⟨rfl, hI⟩))
              · subst b38
                refine ⟨_, 161, rfl, by decide, ?_⟩
                first
                 | (exfalso; omega)
                 | (skip
                    refine e_aload_n (i := 0) 162 dX12_count_161 rfl rfl rfl ?_
                    refine e_geti (j := 5) 165 fl_12_79 dX12_count_162 at_928 (by decide) rfl rfl (fun r162 => ?_)
                    refine e_iret dX12_count_165 ?_
                    first
                      | (exact ⟨by omega, hI⟩)
                      | (exfalso; omega)
                      | (exact ⟨rfl, hI⟩))
              · subst b38
                refine ⟨_, 166, rfl, by decide, ?_⟩
                first
                 | (exfalso; omega)
                 | (skip
                    refine e_aload_n (i := 0) 167 dX12_count_166 rfl rfl rfl ?_
                    refine e_getr (j := 1) 170 fl_12_13 dX12_count_167 at_928 rfl rfl tp_928_1 rfl ?_
                    refine e_sipush 173 dX12_count_170 (by decide) rfl ?_
                    refine e_iald 174 dX12_count_173 ar_929 (by decide) (by decide) rfl (fun r173 => ?_)
                    refine e_iret dX12_count_174 ?_
                    first
                      | (exact ⟨by omega, hI⟩)
                      | (exfalso; omega)
                      | (exact ⟨rfl, hI⟩))
              · subst b38
                refine ⟨_, 175, rfl, by decide, ?_⟩
                first
                 | (exfalso; omega)
                 | (skip
                    refine e_aload_n (i := 0) 176 dX12_count_175 rfl rfl rfl ?_
                    refine e_callV 179 mt_yX12_hereOf mv_yX12_hereOf wd_1834 (by decide) dX12_count_176 at_928 jc_12 rfl rfl rfl (Nat.le_of_ble_eq_true rfl) (jroom (by decide)) rfl (m_hereOf hC ?_)
                    dsimp only [jpush]
                    refine e_iret dX12_count_179 ?_
                    first
                      | (exact ⟨by omega, hI⟩)
                      | (exfalso; omega)
                      | (exact ⟨rfl, hI⟩))
              · subst b38
                refine ⟨_, 180, rfl, by decide, ?_⟩
                first
                 | (exfalso; omega)
                 | (skip
                    refine e_aload_n (i := 0) 181 dX12_count_180 rfl rfl rfl ?_
                    refine e_getr (j := 1) 184 fl_12_13 dX12_count_181 at_928 rfl rfl tp_928_1 rfl ?_
                    refine e_sipush 187 dX12_count_184 (by decide) rfl ?_
                    refine e_iald 188 dX12_count_187 ar_929 (by decide) (by decide) rfl (fun r187 => ?_)
                    refine e_iret dX12_count_188 ?_
                    first
                      | (exact ⟨by omega, hI⟩)
                      | (exfalso; omega)
                      | (exact ⟨rfl, hI⟩))
              · subst b38
                refine ⟨_, 189, rfl, by decide, ?_⟩
                first
                 | (exfalso; omega)
                 | (skip
                    refine e_aload_n (i := 0) 190 dX12_count_189 rfl rfl rfl ?_
                    refine e_getr (j := 1) 193 fl_12_13 dX12_count_190 at_928 rfl rfl tp_928_1 rfl ?_
                    refine e_sipush 196 dX12_count_193 (by decide) rfl ?_
                    refine e_iald 197 dX12_count_196 ar_929 (by decide) (by decide) rfl (fun r196 => ?_)
                    refine e_iret dX12_count_197 ?_
                    first
                      | (exact ⟨by omega, hI⟩)
                      | (exfalso; omega)
                      | (exact ⟨rfl, hI⟩))
            · skip
              refine e_iconst 199 dX12_count_198 rfl ?_
              refine e_iret dX12_count_199 ?_
              first
                | (exact ⟨by omega, hI⟩)
                | (exfalso; omega)
                | (exact ⟨rfl, hI⟩))
    · subst b1
      refine ⟨_, 161, rfl, by decide, ?_⟩
      refine e_aload_n (i := 0) 162 dX11_count_161 rfl rfl rfl ?_
      refine e_getr (j := 0) 165 fl_11_10 dX11_count_162 at_0 rfl rfl tp_0_0 rfl ?_
      refine e_geti (j := 17) 168 fl_11_394 dX11_count_165 at_1 (by decide) rfl rfl (fun r165 => ?_)
      refine e_iret dX11_count_168 ?_
      refine jCt_of mt_yX12_count (Nat.le_of_ble_eq_true rfl) (fun X2 => ?_)
      refine e_aload_n (i := 0) 1 dX12_count_0 rfl rfl rfl ?_
      refine e_iconst 2 dX12_count_1 rfl ?_
      refine e_put0 (j := 0) 5 fl_12_1 dX12_count_2 at_928 rfl rfl rfl (by decide) hI.1 rfl ?_
      refine e_iload_n (i := 1) 6 dX12_count_5 rfl rfl rfl ?_
      refine e_i2l 7 dX12_count_6 (by omega) rfl ?_
      refine e_ldc2 (z := (20)) 10 (ix := 363) wd_1833 (by decide) dX12_count_7 rfl ?_
      refine e_bipush 12 dX12_count_10 (by decide) rfl ?_
      refine e_aload_n (i := 0) 13 dX12_count_12 rfl rfl rfl ?_
      refine e_getr (j := 1) 16 fl_12_13 dX12_count_13 at_928 rfl rfl tp_928_1 rfl ?_
      refine e_sipush 19 dX12_count_16 (by decide) rfl ?_
      refine e_iald 20 dX12_count_19 ar_929 (by decide) (by decide) rfl (fun r19 => ?_)
      refine e_iadd 21 dX12_count_20 rfl ?_
      refine e_i2l 22 dX12_count_21 (by omega) rfl ?_
      refine e_callS 25 mt_yX12_within ms_yX12_within wd_1390 (by decide) dX12_count_22 rfl rfl (Nat.le_of_ble_eq_true rfl) (jroom (by decide)) rfl (m_within (by omega) (by omega) (by omega) (fun w22 => ?_) (fun w22 => ?_))
      · dsimp only [jpush]
        first
         | (exfalso; omega)
         | (skip
            refine e_if_eq 28 37 dX12_count_25 (by decide) (by decide) rfl (fun h => absurd h (by decide)) (fun _ => ?_)
            refine e_aload_n (i := 0) 29 dX12_count_28 rfl rfl rfl ?_
            refine e_iload_n (i := 1) 30 dX12_count_29 rfl rfl rfl ?_
            refine e_bipush 32 dX12_count_30 (by decide) rfl ?_
            refine e_isub 33 dX12_count_32 rfl ?_
            refine e_callV 36 mt_yX12_leftOn mv_yX12_leftOn wd_1645 (by decide) dX12_count_33 at_928 jc_12 rfl rfl rfl (Nat.le_of_ble_eq_true rfl) (jroom (by decide)) rfl (m_leftOn hI.2.1 (by omega) ?_)
            dsimp only [jpush]
            refine e_iret dX12_count_36 ?_
            first
              | (exact ⟨by omega, hI⟩)
              | (exfalso; omega)
              | (exact ⟨rfl, hI⟩))
      · dsimp only [jpush]
        first
         | (exfalso; omega)
         | (skip
            refine e_if_eq 28 37 dX12_count_25 (by decide) (by decide) rfl (fun _ => ?_) (fun h => absurd h (by decide))
            refine e_iload_n (i := 1) 38 dX12_count_37 rfl rfl rfl ?_
            refine e_tsw 198 dX12_count_38 (by omega) (by decide) (fun c0 hc0 hz0 => ?_) (fun b38 => ?_)
            · have hcc : c0 = 0 ∨ c0 = 1 ∨ c0 = 2 ∨ c0 = 3 ∨ c0 = 4 ∨ c0 = 5 ∨ c0 = 6 ∨ c0 = 7 ∨ c0 = 8 ∨ c0 = 9 ∨ c0 = 10 ∨ c0 = 11 := by omega
              rcases hcc with b38 | b38 | b38 | b38 | b38 | b38 | b38 | b38 | b38 | b38 | b38 | b38
              · subst b38
                refine ⟨_, 100, rfl, by decide, ?_⟩
                first
                 | (exfalso; omega)
                 | (skip
                    refine e_aload_n (i := 0) 101 dX12_count_100 rfl rfl rfl ?_
                    refine e_getr (j := 1) 104 fl_12_13 dX12_count_101 at_928 rfl rfl tp_928_1 rfl ?_
                    refine e_sipush 107 dX12_count_104 (by decide) rfl ?_
                    refine e_iald 108 dX12_count_107 ar_929 (by decide) (by decide) rfl (fun r107 => ?_)
                    refine e_iret dX12_count_108 ?_
                    first
                      | (exact ⟨by omega, hI⟩)
                      | (exfalso; omega)
                      | (exact ⟨rfl, hI⟩))
              · subst b38
                refine ⟨_, 109, rfl, by decide, ?_⟩
                first
                 | (exfalso; omega)
                 | (skip
                    refine e_aload_n (i := 0) 110 dX12_count_109 rfl rfl rfl ?_
                    refine e_getr (j := 1) 113 fl_12_13 dX12_count_110 at_928 rfl rfl tp_928_1 rfl ?_
                    refine e_sipush 116 dX12_count_113 (by decide) rfl ?_
                    refine e_iald 117 dX12_count_116 ar_929 (by decide) (by decide) rfl (fun r116 => ?_)
                    refine e_iret dX12_count_117 ?_
                    first
                      | (exact ⟨by omega, hI⟩)
                      | (exfalso; omega)
                      | (exact ⟨rfl, hI⟩))
              · subst b38
                refine ⟨_, 118, rfl, by decide, ?_⟩
                first
                 | (exfalso; omega)
                 | (skip
                    refine e_aload_n (i := 0) 119 dX12_count_118 rfl rfl rfl ?_
                    refine e_getr (j := 1) 122 fl_12_13 dX12_count_119 at_928 rfl rfl tp_928_1 rfl ?_
                    refine e_sipush 125 dX12_count_122 (by decide) rfl ?_
                    refine e_iald 126 dX12_count_125 ar_929 (by decide) (by decide) rfl (fun r125 => ?_)
                    refine e_iret dX12_count_126 ?_
                    first
                      | (exact ⟨by omega, hI⟩)
                      | (exfalso; omega)
                      | (exact ⟨rfl, hI⟩))
              · subst b38
                refine ⟨_, 127, rfl, by decide, ?_⟩
                first
                 | (exfalso; omega)
                 | (skip
                    refine e_aload_n (i := 0) 128 dX12_count_127 rfl rfl rfl ?_
                    refine e_getr (j := 1) 131 fl_12_13 dX12_count_128 at_928 rfl rfl tp_928_1 rfl ?_
                    refine e_sipush 134 dX12_count_131 (by decide) rfl ?_
                    refine e_iald 135 dX12_count_134 ar_929 (by decide) (by decide) rfl (fun r134 => ?_)
                    refine e_iret dX12_count_135 ?_
                    first
                      | (exact ⟨by omega, hI⟩)
                      | (exfalso; omega)
                      | (exact ⟨rfl, hI⟩))
              · subst b38
                refine ⟨_, 136, rfl, by decide, ?_⟩
                first
                 | (exfalso; omega)
                 | (skip
                    refine e_aload_n (i := 0) 137 dX12_count_136 rfl rfl rfl ?_
                    refine e_getr (j := 1) 140 fl_12_13 dX12_count_137 at_928 rfl rfl tp_928_1 rfl ?_
                    refine e_sipush 143 dX12_count_140 (by decide) rfl ?_
                    refine e_iald 144 dX12_count_143 ar_929 (by decide) (by decide) rfl (fun r143 => ?_)
                    refine e_iret dX12_count_144 ?_
                    first
                      | (exact ⟨by omega, hI⟩)
                      | (exfalso; omega)
                      | (exact ⟨rfl, hI⟩))
              · subst b38
                refine ⟨_, 145, rfl, by decide, ?_⟩
                first
                 | (exfalso; omega)
                 | (skip
                    refine e_aload_n (i := 0) 146 dX12_count_145 rfl rfl rfl ?_
                    refine e_getr (j := 1) 149 fl_12_13 dX12_count_146 at_928 rfl rfl tp_928_1 rfl ?_
                    refine e_bipush 151 dX12_count_149 (by decide) rfl ?_
                    refine e_iald 152 dX12_count_151 ar_929 (by decide) (by decide) rfl (fun r151 => ?_)
                    refine e_iret dX12_count_152 ?_
                    first
                      | (exact ⟨by omega, hI⟩)
                      | (exfalso; omega)
                      | (exact ⟨rfl, hI⟩))
              · subst b38
                refine ⟨_, 153, rfl, by decide, ?_⟩
                first
                 | (exfalso; omega)
                 | (skip
                    refine e_aload_n (i := 0) 154 dX12_count_153 rfl rfl rfl ?_
                    refine e_getr (j := 1) 157 fl_12_13 dX12_count_154 at_928 rfl rfl tp_928_1 rfl ?_
                    refine e_bipush 159 dX12_count_157 (by decide) rfl ?_
                    refine e_iald 160 dX12_count_159 ar_929 (by decide) (by decide) rfl (fun r159 => ?_)
                    refine e_iret dX12_count_160 ?_
                    first
                      | (exact ⟨by omega, hI⟩)
                      | (exfalso; omega)
                      | (exact ⟨rfl, hI⟩))
              · subst b38
                refine ⟨_, 161, rfl, by decide, ?_⟩
                first
                 | (exfalso; omega)
                 | (skip
                    refine e_aload_n (i := 0) 162 dX12_count_161 rfl rfl rfl ?_
                    refine e_geti (j := 5) 165 fl_12_79 dX12_count_162 at_928 (by decide) rfl rfl (fun r162 => ?_)
                    refine e_iret dX12_count_165 ?_
                    first
                      | (exact ⟨by omega, hI⟩)
                      | (exfalso; omega)
                      | (exact ⟨rfl, hI⟩))
              · subst b38
                refine ⟨_, 166, rfl, by decide, ?_⟩
                first
                 | (exfalso; omega)
                 | (skip
                    refine e_aload_n (i := 0) 167 dX12_count_166 rfl rfl rfl ?_
                    refine e_getr (j := 1) 170 fl_12_13 dX12_count_167 at_928 rfl rfl tp_928_1 rfl ?_
                    refine e_sipush 173 dX12_count_170 (by decide) rfl ?_
                    refine e_iald 174 dX12_count_173 ar_929 (by decide) (by decide) rfl (fun r173 => ?_)
                    refine e_iret dX12_count_174 ?_
                    first
                      | (exact ⟨by omega, hI⟩)
                      | (exfalso; omega)
                      | (exact ⟨rfl, hI⟩))
              · subst b38
                refine ⟨_, 175, rfl, by decide, ?_⟩
                first
                 | (exfalso; omega)
                 | (skip
                    refine e_aload_n (i := 0) 176 dX12_count_175 rfl rfl rfl ?_
                    refine e_callV 179 mt_yX12_hereOf mv_yX12_hereOf wd_1834 (by decide) dX12_count_176 at_928 jc_12 rfl rfl rfl (Nat.le_of_ble_eq_true rfl) (jroom (by decide)) rfl (m_hereOf hC ?_)
                    dsimp only [jpush]
                    refine e_iret dX12_count_179 ?_
                    first
                      | (exact ⟨by omega, hI⟩)
                      | (exfalso; omega)
                      | (exact ⟨rfl, hI⟩))
              · subst b38
                refine ⟨_, 180, rfl, by decide, ?_⟩
                first
                 | (exfalso; omega)
                 | (skip
                    refine e_aload_n (i := 0) 181 dX12_count_180 rfl rfl rfl ?_
                    refine e_getr (j := 1) 184 fl_12_13 dX12_count_181 at_928 rfl rfl tp_928_1 rfl ?_
                    refine e_sipush 187 dX12_count_184 (by decide) rfl ?_
                    refine e_iald 188 dX12_count_187 ar_929 (by decide) (by decide) rfl (fun r187 => ?_)
                    refine e_iret dX12_count_188 ?_
                    first
                      | (exact ⟨by omega, hI⟩)
                      | (exfalso; omega)
                      | (exact ⟨rfl, hI⟩))
              · subst b38
                refine ⟨_, 189, rfl, by decide, ?_⟩
                first
                 | (exfalso; omega)
                 | (skip
                    refine e_aload_n (i := 0) 190 dX12_count_189 rfl rfl rfl ?_
                    refine e_getr (j := 1) 193 fl_12_13 dX12_count_190 at_928 rfl rfl tp_928_1 rfl ?_
                    refine e_sipush 196 dX12_count_193 (by decide) rfl ?_
                    refine e_iald 197 dX12_count_196 ar_929 (by decide) (by decide) rfl (fun r196 => ?_)
                    refine e_iret dX12_count_197 ?_
                    first
                      | (exact ⟨by omega, hI⟩)
                      | (exfalso; omega)
                      | (exact ⟨rfl, hI⟩))
            · skip
              refine e_iconst 199 dX12_count_198 rfl ?_
              refine e_iret dX12_count_199 ?_
              first
                | (exact ⟨by omega, hI⟩)
                | (exfalso; omega)
                | (exact ⟨rfl, hI⟩))
  · skip
    refine e_iload_n (i := 1) 170 dX11_count_169 rfl rfl rfl ?_
    refine e_bipush 172 dX11_count_170 (by decide) rfl ?_
    refine e_bipush 174 dX11_count_172 (by decide) rfl ?_
    refine e_aload_n (i := 0) 175 dX11_count_174 rfl rfl rfl ?_
    refine e_getr (j := 0) 178 fl_11_10 dX11_count_175 at_0 rfl rfl tp_0_0 rfl ?_
    refine e_geti (j := 14) 181 fl_11_315 dX11_count_178 at_1 (by decide) rfl rfl (fun r178 => ?_)
    refine e_iadd 182 dX11_count_181 rfl ?_
    refine e_callS 185 mt_yX11_within ms_yX11_within wd_531 (by decide) dX11_count_182 rfl rfl (Nat.le_of_ble_eq_true rfl) (jroom (by decide)) rfl (c_within (by omega) (by omega) (by omega) (fun w182 => ?_) (fun w182 => ?_))
    · dsimp only [jpush]
      refine e_if_eq 188 202 dX11_count_185 (by decide) (by decide) rfl (fun h => absurd h (by decide)) (fun _ => ?_)
      refine e_aload_n (i := 0) 189 dX11_count_188 rfl rfl rfl ?_
      refine e_getr (j := 0) 192 fl_11_10 dX11_count_189 at_0 rfl rfl tp_0_0 rfl ?_
      refine e_iload_n (i := 1) 193 dX11_count_192 rfl rfl rfl ?_
      refine e_bipush 195 dX11_count_193 (by decide) rfl ?_
      refine e_isub 196 dX11_count_195 rfl ?_
      refine e_callV 199 mt_yX8_roomLeft mv_yX8_roomLeft wd_950 (by decide) dX11_count_196 at_1 jc_8 rfl rfl rfl (Nat.le_of_ble_eq_true rfl) (jroom (by decide)) rfl (c_roomLeft hC (by omega) ?_)
      dsimp only [jpush]
      refine e_goto 203 dX11_count_199 (by decide) ?_
      refine e_iret dX11_count_203 ?_
      refine jCt_of mt_yX12_count (Nat.le_of_ble_eq_true rfl) (fun X2 => ?_)
      refine e_aload_n (i := 0) 1 dX12_count_0 rfl rfl rfl ?_
      refine e_iconst 2 dX12_count_1 rfl ?_
      refine e_put0 (j := 0) 5 fl_12_1 dX12_count_2 at_928 rfl rfl rfl (by decide) hI.1 rfl ?_
      refine e_iload_n (i := 1) 6 dX12_count_5 rfl rfl rfl ?_
      refine e_i2l 7 dX12_count_6 (by omega) rfl ?_
      refine e_ldc2 (z := (20)) 10 (ix := 363) wd_1833 (by decide) dX12_count_7 rfl ?_
      refine e_bipush 12 dX12_count_10 (by decide) rfl ?_
      refine e_aload_n (i := 0) 13 dX12_count_12 rfl rfl rfl ?_
      refine e_getr (j := 1) 16 fl_12_13 dX12_count_13 at_928 rfl rfl tp_928_1 rfl ?_
      refine e_sipush 19 dX12_count_16 (by decide) rfl ?_
      refine e_iald 20 dX12_count_19 ar_929 (by decide) (by decide) rfl (fun r19 => ?_)
      refine e_iadd 21 dX12_count_20 rfl ?_
      refine e_i2l 22 dX12_count_21 (by omega) rfl ?_
      refine e_callS 25 mt_yX12_within ms_yX12_within wd_1390 (by decide) dX12_count_22 rfl rfl (Nat.le_of_ble_eq_true rfl) (jroom (by decide)) rfl (m_within (by omega) (by omega) (by omega) (fun w22 => ?_) (fun w22 => ?_))
      · dsimp only [jpush]
        first
         | (exfalso; omega)
         | (skip
            refine e_if_eq 28 37 dX12_count_25 (by decide) (by decide) rfl (fun h => absurd h (by decide)) (fun _ => ?_)
            refine e_aload_n (i := 0) 29 dX12_count_28 rfl rfl rfl ?_
            refine e_iload_n (i := 1) 30 dX12_count_29 rfl rfl rfl ?_
            refine e_bipush 32 dX12_count_30 (by decide) rfl ?_
            refine e_isub 33 dX12_count_32 rfl ?_
            refine e_callV 36 mt_yX12_leftOn mv_yX12_leftOn wd_1645 (by decide) dX12_count_33 at_928 jc_12 rfl rfl rfl (Nat.le_of_ble_eq_true rfl) (jroom (by decide)) rfl (m_leftOn hI.2.1 (by omega) ?_)
            dsimp only [jpush]
            refine e_iret dX12_count_36 ?_
            first
              | (exact ⟨by omega, hI⟩)
              | (exfalso; omega)
              | (exact ⟨rfl, hI⟩))
      · dsimp only [jpush]
        first
         | (exfalso; omega)
         | (skip
            refine e_if_eq 28 37 dX12_count_25 (by decide) (by decide) rfl (fun _ => ?_) (fun h => absurd h (by decide))
            refine e_iload_n (i := 1) 38 dX12_count_37 rfl rfl rfl ?_
            refine e_tsw 198 dX12_count_38 (by omega) (by decide) (fun c0 hc0 hz0 => ?_) (fun b38 => ?_)
            · have hcc : c0 = 0 ∨ c0 = 1 ∨ c0 = 2 ∨ c0 = 3 ∨ c0 = 4 ∨ c0 = 5 ∨ c0 = 6 ∨ c0 = 7 ∨ c0 = 8 ∨ c0 = 9 ∨ c0 = 10 ∨ c0 = 11 := by omega
              rcases hcc with b38 | b38 | b38 | b38 | b38 | b38 | b38 | b38 | b38 | b38 | b38 | b38
              · subst b38
                refine ⟨_, 100, rfl, by decide, ?_⟩
                first
                 | (exfalso; omega)
                 | (skip
                    refine e_aload_n (i := 0) 101 dX12_count_100 rfl rfl rfl ?_
                    refine e_getr (j := 1) 104 fl_12_13 dX12_count_101 at_928 rfl rfl tp_928_1 rfl ?_
                    refine e_sipush 107 dX12_count_104 (by decide) rfl ?_
                    refine e_iald 108 dX12_count_107 ar_929 (by decide) (by decide) rfl (fun r107 => ?_)
                    refine e_iret dX12_count_108 ?_
                    first
                      | (exact ⟨by omega, hI⟩)
                      | (exfalso; omega)
                      | (exact ⟨rfl, hI⟩))
              · subst b38
                refine ⟨_, 109, rfl, by decide, ?_⟩
                first
                 | (exfalso; omega)
                 | (skip
                    refine e_aload_n (i := 0) 110 dX12_count_109 rfl rfl rfl ?_
                    refine e_getr (j := 1) 113 fl_12_13 dX12_count_110 at_928 rfl rfl tp_928_1 rfl ?_
                    refine e_sipush 116 dX12_count_113 (by decide) rfl ?_
                    refine e_iald 117 dX12_count_116 ar_929 (by decide) (by decide) rfl (fun r116 => ?_)
                    refine e_iret dX12_count_117 ?_
                    first
                      | (exact ⟨by omega, hI⟩)
                      | (exfalso; omega)
                      | (exact ⟨rfl, hI⟩))
              · subst b38
                refine ⟨_, 118, rfl, by decide, ?_⟩
                first
                 | (exfalso; omega)
                 | (skip
                    refine e_aload_n (i := 0) 119 dX12_count_118 rfl rfl rfl ?_
                    refine e_getr (j := 1) 122 fl_12_13 dX12_count_119 at_928 rfl rfl tp_928_1 rfl ?_
                    refine e_sipush 125 dX12_count_122 (by decide) rfl ?_
                    refine e_iald 126 dX12_count_125 ar_929 (by decide) (by decide) rfl (fun r125 => ?_)
                    refine e_iret dX12_count_126 ?_
                    first
                      | (exact ⟨by omega, hI⟩)
                      | (exfalso; omega)
                      | (exact ⟨rfl, hI⟩))
              · subst b38
                refine ⟨_, 127, rfl, by decide, ?_⟩
                first
                 | (exfalso; omega)
                 | (skip
                    refine e_aload_n (i := 0) 128 dX12_count_127 rfl rfl rfl ?_
                    refine e_getr (j := 1) 131 fl_12_13 dX12_count_128 at_928 rfl rfl tp_928_1 rfl ?_
                    refine e_sipush 134 dX12_count_131 (by decide) rfl ?_
                    refine e_iald 135 dX12_count_134 ar_929 (by decide) (by decide) rfl (fun r134 => ?_)
                    refine e_iret dX12_count_135 ?_
                    first
                      | (exact ⟨by omega, hI⟩)
                      | (exfalso; omega)
                      | (exact ⟨rfl, hI⟩))
              · subst b38
                refine ⟨_, 136, rfl, by decide, ?_⟩
                first
                 | (exfalso; omega)
                 | (skip
                    refine e_aload_n (i := 0) 137 dX12_count_136 rfl rfl rfl ?_
                    refine e_getr (j := 1) 140 fl_12_13 dX12_count_137 at_928 rfl rfl tp_928_1 rfl ?_
                    refine e_sipush 143 dX12_count_140 (by decide) rfl ?_
                    refine e_iald 144 dX12_count_143 ar_929 (by decide) (by decide) rfl (fun r143 => ?_)
                    refine e_iret dX12_count_144 ?_
                    first
                      | (exact ⟨by omega, hI⟩)
                      | (exfalso; omega)
                      | (exact ⟨rfl, hI⟩))
              · subst b38
                refine ⟨_, 145, rfl, by decide, ?_⟩
                first
                 | (exfalso; omega)
                 | (skip
                    refine e_aload_n (i := 0) 146 dX12_count_145 rfl rfl rfl ?_
                    refine e_getr (j := 1) 149 fl_12_13 dX12_count_146 at_928 rfl rfl tp_928_1 rfl ?_
                    refine e_bipush 151 dX12_count_149 (by decide) rfl ?_
                    refine e_iald 152 dX12_count_151 ar_929 (by decide) (by decide) rfl (fun r151 => ?_)
                    refine e_iret dX12_count_152 ?_
                    first
                      | (exact ⟨by omega, hI⟩)
                      | (exfalso; omega)
                      | (exact ⟨rfl, hI⟩))
              · subst b38
                refine ⟨_, 153, rfl, by decide, ?_⟩
                first
                 | (exfalso; omega)
                 | (skip
                    refine e_aload_n (i := 0) 154 dX12_count_153 rfl rfl rfl ?_
                    refine e_getr (j := 1) 157 fl_12_13 dX12_count_154 at_928 rfl rfl tp_928_1 rfl ?_
                    refine e_bipush 159 dX12_count_157 (by decide) rfl ?_
                    refine e_iald 160 dX12_count_159 ar_929 (by decide) (by decide) rfl (fun r159 => ?_)
                    refine e_iret dX12_count_160 ?_
                    first
                      | (exact ⟨by omega, hI⟩)
                      | (exfalso; omega)
                      | (exact ⟨rfl, hI⟩))
              · subst b38
                refine ⟨_, 161, rfl, by decide, ?_⟩
                first
                 | (exfalso; omega)
                 | (skip
                    refine e_aload_n (i := 0) 162 dX12_count_161 rfl rfl rfl ?_
                    refine e_geti (j := 5) 165 fl_12_79 dX12_count_162 at_928 (by decide) rfl rfl (fun r162 => ?_)
                    refine e_iret dX12_count_165 ?_
                    first
                      | (exact ⟨by omega, hI⟩)
                      | (exfalso; omega)
                      | (exact ⟨rfl, hI⟩))
              · subst b38
                refine ⟨_, 166, rfl, by decide, ?_⟩
                first
                 | (exfalso; omega)
                 | (skip
                    refine e_aload_n (i := 0) 167 dX12_count_166 rfl rfl rfl ?_
                    refine e_getr (j := 1) 170 fl_12_13 dX12_count_167 at_928 rfl rfl tp_928_1 rfl ?_
                    refine e_sipush 173 dX12_count_170 (by decide) rfl ?_
                    refine e_iald 174 dX12_count_173 ar_929 (by decide) (by decide) rfl (fun r173 => ?_)
                    refine e_iret dX12_count_174 ?_
                    first
                      | (exact ⟨by omega, hI⟩)
                      | (exfalso; omega)
                      | (exact ⟨rfl, hI⟩))
              · subst b38
                refine ⟨_, 175, rfl, by decide, ?_⟩
                first
                 | (exfalso; omega)
                 | (skip
                    refine e_aload_n (i := 0) 176 dX12_count_175 rfl rfl rfl ?_
                    refine e_callV 179 mt_yX12_hereOf mv_yX12_hereOf wd_1834 (by decide) dX12_count_176 at_928 jc_12 rfl rfl rfl (Nat.le_of_ble_eq_true rfl) (jroom (by decide)) rfl (m_hereOf hC ?_)
                    dsimp only [jpush]
                    refine e_iret dX12_count_179 ?_
                    first
                      | (exact ⟨by omega, hI⟩)
                      | (exfalso; omega)
                      | (exact ⟨rfl, hI⟩))
              · subst b38
                refine ⟨_, 180, rfl, by decide, ?_⟩
                first
                 | (exfalso; omega)
                 | (skip
                    refine e_aload_n (i := 0) 181 dX12_count_180 rfl rfl rfl ?_
                    refine e_getr (j := 1) 184 fl_12_13 dX12_count_181 at_928 rfl rfl tp_928_1 rfl ?_
                    refine e_sipush 187 dX12_count_184 (by decide) rfl ?_
                    refine e_iald 188 dX12_count_187 ar_929 (by decide) (by decide) rfl (fun r187 => ?_)
                    refine e_iret dX12_count_188 ?_
                    first
                      | (exact ⟨by omega, hI⟩)
                      | (exfalso; omega)
                      | (exact ⟨rfl, hI⟩))
              · subst b38
                refine ⟨_, 189, rfl, by decide, ?_⟩
                first
                 | (exfalso; omega)
                 | (skip
                    refine e_aload_n (i := 0) 190 dX12_count_189 rfl rfl rfl ?_
                    refine e_getr (j := 1) 193 fl_12_13 dX12_count_190 at_928 rfl rfl tp_928_1 rfl ?_
                    refine e_sipush 196 dX12_count_193 (by decide) rfl ?_
                    refine e_iald 197 dX12_count_196 ar_929 (by decide) (by decide) rfl (fun r196 => ?_)
                    refine e_iret dX12_count_197 ?_
                    first
                      | (exact ⟨by omega, hI⟩)
                      | (exfalso; omega)
                      | (exact ⟨rfl, hI⟩))
            · skip
              refine e_iconst 199 dX12_count_198 rfl ?_
              refine e_iret dX12_count_199 ?_
              first
                | (exact ⟨by omega, hI⟩)
                | (exfalso; omega)
                | (exact ⟨rfl, hI⟩))
    · dsimp only [jpush]
      refine e_if_eq 188 202 dX11_count_185 (by decide) (by decide) rfl (fun _ => ?_) (fun h => absurd h (by decide))
      refine e_iconst 203 dX11_count_202 rfl ?_
      refine e_iret dX11_count_203 ?_
      refine jCt_of mt_yX12_count (Nat.le_of_ble_eq_true rfl) (fun X2 => ?_)
      refine e_aload_n (i := 0) 1 dX12_count_0 rfl rfl rfl ?_
      refine e_iconst 2 dX12_count_1 rfl ?_
      refine e_put0 (j := 0) 5 fl_12_1 dX12_count_2 at_928 rfl rfl rfl (by decide) hI.1 rfl ?_
      refine e_iload_n (i := 1) 6 dX12_count_5 rfl rfl rfl ?_
      refine e_i2l 7 dX12_count_6 (by omega) rfl ?_
      refine e_ldc2 (z := (20)) 10 (ix := 363) wd_1833 (by decide) dX12_count_7 rfl ?_
      refine e_bipush 12 dX12_count_10 (by decide) rfl ?_
      refine e_aload_n (i := 0) 13 dX12_count_12 rfl rfl rfl ?_
      refine e_getr (j := 1) 16 fl_12_13 dX12_count_13 at_928 rfl rfl tp_928_1 rfl ?_
      refine e_sipush 19 dX12_count_16 (by decide) rfl ?_
      refine e_iald 20 dX12_count_19 ar_929 (by decide) (by decide) rfl (fun r19 => ?_)
      refine e_iadd 21 dX12_count_20 rfl ?_
      refine e_i2l 22 dX12_count_21 (by omega) rfl ?_
      refine e_callS 25 mt_yX12_within ms_yX12_within wd_1390 (by decide) dX12_count_22 rfl rfl (Nat.le_of_ble_eq_true rfl) (jroom (by decide)) rfl (m_within (by omega) (by omega) (by omega) (fun w22 => ?_) (fun w22 => ?_))
      · dsimp only [jpush]
        first
         | (exfalso; omega)
         | (skip
            refine e_if_eq 28 37 dX12_count_25 (by decide) (by decide) rfl (fun h => absurd h (by decide)) (fun _ => ?_)
            refine e_aload_n (i := 0) 29 dX12_count_28 rfl rfl rfl ?_
            refine e_iload_n (i := 1) 30 dX12_count_29 rfl rfl rfl ?_
            refine e_bipush 32 dX12_count_30 (by decide) rfl ?_
            refine e_isub 33 dX12_count_32 rfl ?_
            refine e_callV 36 mt_yX12_leftOn mv_yX12_leftOn wd_1645 (by decide) dX12_count_33 at_928 jc_12 rfl rfl rfl (Nat.le_of_ble_eq_true rfl) (jroom (by decide)) rfl (m_leftOn hI.2.1 (by omega) ?_)
            dsimp only [jpush]
            refine e_iret dX12_count_36 ?_
            first
              | (exact ⟨by omega, hI⟩)
              | (exfalso; omega)
              | (exact ⟨rfl, hI⟩))
      · dsimp only [jpush]
        first
         | (exfalso; omega)
         | (skip
            refine e_if_eq 28 37 dX12_count_25 (by decide) (by decide) rfl (fun _ => ?_) (fun h => absurd h (by decide))
            refine e_iload_n (i := 1) 38 dX12_count_37 rfl rfl rfl ?_
            refine e_tsw 198 dX12_count_38 (by omega) (by decide) (fun c0 hc0 hz0 => ?_) (fun b38 => ?_)
            · have hcc : c0 = 0 ∨ c0 = 1 ∨ c0 = 2 ∨ c0 = 3 ∨ c0 = 4 ∨ c0 = 5 ∨ c0 = 6 ∨ c0 = 7 ∨ c0 = 8 ∨ c0 = 9 ∨ c0 = 10 ∨ c0 = 11 := by omega
              rcases hcc with b38 | b38 | b38 | b38 | b38 | b38 | b38 | b38 | b38 | b38 | b38 | b38
              · subst b38
                refine ⟨_, 100, rfl, by decide, ?_⟩
                first
                 | (exfalso; omega)
                 | (skip
                    refine e_aload_n (i := 0) 101 dX12_count_100 rfl rfl rfl ?_
                    refine e_getr (j := 1) 104 fl_12_13 dX12_count_101 at_928 rfl rfl tp_928_1 rfl ?_
                    refine e_sipush 107 dX12_count_104 (by decide) rfl ?_
                    refine e_iald 108 dX12_count_107 ar_929 (by decide) (by decide) rfl (fun r107 => ?_)
                    refine e_iret dX12_count_108 ?_
                    first
                      | (exact ⟨by omega, hI⟩)
                      | (exfalso; omega)
                      | (exact ⟨rfl, hI⟩))
              · subst b38
                refine ⟨_, 109, rfl, by decide, ?_⟩
                first
                 | (exfalso; omega)
                 | (skip
                    refine e_aload_n (i := 0) 110 dX12_count_109 rfl rfl rfl ?_
                    refine e_getr (j := 1) 113 fl_12_13 dX12_count_110 at_928 rfl rfl tp_928_1 rfl ?_
                    refine e_sipush 116 dX12_count_113 (by decide) rfl ?_
                    refine e_iald 117 dX12_count_116 ar_929 (by decide) (by decide) rfl (fun r116 => ?_)
                    refine e_iret dX12_count_117 ?_
                    first
                      | (exact ⟨by omega, hI⟩)
                      | (exfalso; omega)
                      | (exact ⟨rfl, hI⟩))
              · subst b38
                refine ⟨_, 118, rfl, by decide, ?_⟩
                first
                 | (exfalso; omega)
                 | (skip
                    refine e_aload_n (i := 0) 119 dX12_count_118 rfl rfl rfl ?_
                    refine e_getr (j := 1) 122 fl_12_13 dX12_count_119 at_928 rfl rfl tp_928_1 rfl ?_
                    refine e_sipush 125 dX12_count_122 (by decide) rfl ?_
                    refine e_iald 126 dX12_count_125 ar_929 (by decide) (by decide) rfl (fun r125 => ?_)
                    refine e_iret dX12_count_126 ?_
                    first
                      | (exact ⟨by omega, hI⟩)
                      | (exfalso; omega)
                      | (exact ⟨rfl, hI⟩))
              · subst b38
                refine ⟨_, 127, rfl, by decide, ?_⟩
                first
                 | (exfalso; omega)
                 | (skip
                    refine e_aload_n (i := 0) 128 dX12_count_127 rfl rfl rfl ?_
                    refine e_getr (j := 1) 131 fl_12_13 dX12_count_128 at_928 rfl rfl tp_928_1 rfl ?_
                    refine e_sipush 134 dX12_count_131 (by decide) rfl ?_
                    refine e_iald 135 dX12_count_134 ar_929 (by decide) (by decide) rfl (fun r134 => ?_)
                    refine e_iret dX12_count_135 ?_
                    first
                      | (exact ⟨by omega, hI⟩)
                      | (exfalso; omega)
                      | (exact ⟨rfl, hI⟩))
              · subst b38
                refine ⟨_, 136, rfl, by decide, ?_⟩
                first
                 | (exfalso; omega)
                 | (skip
                    refine e_aload_n (i := 0) 137 dX12_count_136 rfl rfl rfl ?_
                    refine e_getr (j := 1) 140 fl_12_13 dX12_count_137 at_928 rfl rfl tp_928_1 rfl ?_
                    refine e_sipush 143 dX12_count_140 (by decide) rfl ?_
                    refine e_iald 144 dX12_count_143 ar_929 (by decide) (by decide) rfl (fun r143 => ?_)
                    refine e_iret dX12_count_144 ?_
                    first
                      | (exact ⟨by omega, hI⟩)
                      | (exfalso; omega)
                      | (exact ⟨rfl, hI⟩))
              · subst b38
                refine ⟨_, 145, rfl, by decide, ?_⟩
                first
                 | (exfalso; omega)
                 | (skip
                    refine e_aload_n (i := 0) 146 dX12_count_145 rfl rfl rfl ?_
                    refine e_getr (j := 1) 149 fl_12_13 dX12_count_146 at_928 rfl rfl tp_928_1 rfl ?_
                    refine e_bipush 151 dX12_count_149 (by decide) rfl ?_
                    refine e_iald 152 dX12_count_151 ar_929 (by decide) (by decide) rfl (fun r151 => ?_)
                    refine e_iret dX12_count_152 ?_
                    first
                      | (exact ⟨by omega, hI⟩)
                      | (exfalso; omega)
                      | (exact ⟨rfl, hI⟩))
              · subst b38
                refine ⟨_, 153, rfl, by decide, ?_⟩
                first
                 | (exfalso; omega)
                 | (skip
                    refine e_aload_n (i := 0) 154 dX12_count_153 rfl rfl rfl ?_
                    refine e_getr (j := 1) 157 fl_12_13 dX12_count_154 at_928 rfl rfl tp_928_1 rfl ?_
                    refine e_bipush 159 dX12_count_157 (by decide) rfl ?_
                    refine e_iald 160 dX12_count_159 ar_929 (by decide) (by decide) rfl (fun r159 => ?_)
                    refine e_iret dX12_count_160 ?_
                    first
                      | (exact ⟨by omega, hI⟩)
                      | (exfalso; omega)
                      | (exact ⟨rfl, hI⟩))
              · subst b38
                refine ⟨_, 161, rfl, by decide, ?_⟩
                first
                 | (exfalso; omega)
                 | (skip
                    refine e_aload_n (i := 0) 162 dX12_count_161 rfl rfl rfl ?_
                    refine e_geti (j := 5) 165 fl_12_79 dX12_count_162 at_928 (by decide) rfl rfl (fun r162 => ?_)
                    refine e_iret dX12_count_165 ?_
                    first
                      | (exact ⟨by omega, hI⟩)
                      | (exfalso; omega)
                      | (exact ⟨rfl, hI⟩))
              · subst b38
                refine ⟨_, 166, rfl, by decide, ?_⟩
                first
                 | (exfalso; omega)
                 | (skip
                    refine e_aload_n (i := 0) 167 dX12_count_166 rfl rfl rfl ?_
                    refine e_getr (j := 1) 170 fl_12_13 dX12_count_167 at_928 rfl rfl tp_928_1 rfl ?_
                    refine e_sipush 173 dX12_count_170 (by decide) rfl ?_
                    refine e_iald 174 dX12_count_173 ar_929 (by decide) (by decide) rfl (fun r173 => ?_)
                    refine e_iret dX12_count_174 ?_
                    first
                      | (exact ⟨by omega, hI⟩)
                      | (exfalso; omega)
                      | (exact ⟨rfl, hI⟩))
              · subst b38
                refine ⟨_, 175, rfl, by decide, ?_⟩
                first
                 | (exfalso; omega)
                 | (skip
                    refine e_aload_n (i := 0) 176 dX12_count_175 rfl rfl rfl ?_
                    refine e_callV 179 mt_yX12_hereOf mv_yX12_hereOf wd_1834 (by decide) dX12_count_176 at_928 jc_12 rfl rfl rfl (Nat.le_of_ble_eq_true rfl) (jroom (by decide)) rfl (m_hereOf hC ?_)
                    dsimp only [jpush]
                    refine e_iret dX12_count_179 ?_
                    first
                      | (exact ⟨by omega, hI⟩)
                      | (exfalso; omega)
                      | (exact ⟨rfl, hI⟩))
              · subst b38
                refine ⟨_, 180, rfl, by decide, ?_⟩
                first
                 | (exfalso; omega)
                 | (skip
                    refine e_aload_n (i := 0) 181 dX12_count_180 rfl rfl rfl ?_
                    refine e_getr (j := 1) 184 fl_12_13 dX12_count_181 at_928 rfl rfl tp_928_1 rfl ?_
                    refine e_sipush 187 dX12_count_184 (by decide) rfl ?_
                    refine e_iald 188 dX12_count_187 ar_929 (by decide) (by decide) rfl (fun r187 => ?_)
                    refine e_iret dX12_count_188 ?_
                    first
                      | (exact ⟨by omega, hI⟩)
                      | (exfalso; omega)
                      | (exact ⟨rfl, hI⟩))
              · subst b38
                refine ⟨_, 189, rfl, by decide, ?_⟩
                first
                 | (exfalso; omega)
                 | (skip
                    refine e_aload_n (i := 0) 190 dX12_count_189 rfl rfl rfl ?_
                    refine e_getr (j := 1) 193 fl_12_13 dX12_count_190 at_928 rfl rfl tp_928_1 rfl ?_
                    refine e_sipush 196 dX12_count_193 (by decide) rfl ?_
                    refine e_iald 197 dX12_count_196 ar_929 (by decide) (by decide) rfl (fun r196 => ?_)
                    refine e_iret dX12_count_197 ?_
                    first
                      | (exact ⟨by omega, hI⟩)
                      | (exfalso; omega)
                      | (exact ⟨rfl, hI⟩))
            · skip
              refine e_iconst 199 dX12_count_198 rfl ?_
              refine e_iret dX12_count_199 ?_
              first
                | (exact ⟨by omega, hI⟩)
                | (exfalso; omega)
                | (exact ⟨rfl, hI⟩))

