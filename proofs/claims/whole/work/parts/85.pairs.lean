/-! TRIPS *** the reference, whole; PAIRS: trips -/
theorem lm_fill {X : jX} {M : jM} {Q : Int → jM → Prop} (hC : CR M) {fr bits arms : Int} {b : Nat} (hbb : bits = b) (hb8 : b < 256) (har : 1 ≤ arms ∧ arms ≤ 99) (hok : ∀ p ∈ selF b (fun j => fr + (j : Int)) 8 0, (0 ≤ p ∧ p < M 929 709) ∧ M 929 (950 + p) ≠ -1) (h : ∀ (Z : jM) (v : Int), Scr M Z → Lst (tripT (M 929) arms) (selF b (fun j => fr + (j : Int)) 8 0) (-1) v → Q v Z) : ∀ k s : Nat, s + k = 256 → ∀ W : jM, Scr M W → LedB (M 929) arms (fun j => fr + (j : Int)) b W s → ∀ ss : Int, ss = s → jE X yX12_trips cX12_trips 7 (some .int) 3 Q W 108 [(0, jR 928), (1, jI fr), (2, jI bits), (3, jI arms), (4, jI ss)] [] := by
  intro k
  induction k with
  | zero =>
    intro s hs W hS hL ss hss
    have hlast := (hL b (by omega) (Nat.and_self b)).1
    rw [← hbb] at hlast
    have h := h W _ hS hlast
    refine e_iload 110 dX12_trips_108 rfl rfl ?_
    refine e_sipush 113 dX12_trips_110 (by decide) rfl ?_
    refine e_icmp_ge 116 262 dX12_trips_113 (by omega) (by decide) (by decide) rfl (fun b113 => ?_) (fun b113 => ?_)
    · skip
      refine e_aload_n (i := 0) 263 dX12_trips_262 rfl rfl rfl ?_
      refine e_getr (j := 27) 266 fl_12_57 dX12_trips_263 at_928 rfl rfl tp_928_27 rfl ?_
      refine e_iload_n (i := 2) 267 dX12_trips_266 rfl rfl rfl ?_
      refine e_iald 268 dX12_trips_267 ar_942 (by omega) (by omega) rfl (fun r267 => ?_)
      refine e_iret dX12_trips_268 ?_
      exact h
    · omega
  | succ k ih =>
    intro s hs W hS hL ss hss
    have hCY := hS.cr hC
    have e9 := hS.row
    have hn := hCY.cnt
    have hg := hCY.rng
    have e71 : W 929 3895 = M 929 3895 := by rw [e9]
    have e72 : W 929 709 = M 929 709 := by rw [e9]
    have hsn : s < 2 ^ 8 := by omega
    have hsb : (s &&& b) &&& s = s &&& b := sub_of (fun i hi => by
      rw [Nat.testBit_and, Bool.and_eq_true] at hi
      exact hi.1)
    have hsx := sub_xor 8 (s &&& b) s hsn hsb
    have hnb : jand ss (jxor bits (-1)) = ((s ^^^ (s &&& b) : Nat) : Int) := by
      rw [hss, hbb]
      exact jandn_nat (by omega) (by omega)
    rw [hsx.2] at hnb
    have hk := hL.set (i := ss) (v := if ss = 0 then 0 else -1) hss
    by_cases hs0 : s = 0
    case pos =>
      rw [if_pos (by omega)] at hk
      refine e_iload 110 dX12_trips_108 rfl rfl ?_
      refine e_sipush 113 dX12_trips_110 (by decide) rfl ?_
      refine e_icmp_ge 116 262 dX12_trips_113 (by omega) (by decide) (by decide) rfl (fun b113 => ?_) (fun b113 => ?_)
      · omega
      · first
         | (exfalso; omega)
         | (skip
            refine e_aload_n (i := 0) 117 dX12_trips_116 rfl rfl rfl ?_
            refine e_getr (j := 27) 120 fl_12_57 dX12_trips_117 at_928 rfl rfl tp_928_27 rfl ?_
            refine e_iload 122 dX12_trips_120 rfl rfl ?_
            refine e_iload 124 dX12_trips_122 rfl rfl ?_
            refine e_if_ne 127 131 dX12_trips_124 (by omega) (by decide) rfl (fun b124 => ?_) (fun b124 => ?_)
            · omega
            · first
               | (exfalso; omega)
               | (skip
                  refine e_iconst 128 dX12_trips_127 rfl ?_
                  refine e_goto 132 dX12_trips_128 (by decide) ?_
                  refine e_iast 133 dX12_trips_132 ar_942 (by omega) (by omega) (by decide) rfl ?_
                  refine e_iload 135 dX12_trips_133 rfl rfl ?_
                  refine e_iload_n (i := 2) 136 dX12_trips_135 rfl rfl rfl ?_
                  refine e_iconst 137 dX12_trips_136 rfl ?_
                  refine e_ixor 138 dX12_trips_137 rfl ?_
                  refine e_iand 139 dX12_trips_138 rfl ?_
                  rw [hnb]
                  refine e_if_eq 142 145 dX12_trips_139 (by omega) (by decide) rfl (fun b139 => ?_) (fun b139 => ?_)
                  · first
                     | (exfalso; omega)
                     | (skip
                        refine e_iload 147 dX12_trips_145 rfl rfl ?_
                        refine e_istore (lsn := [(5, _), (0, _), (1, _), (2, _), (3, _), (4, _)]) 149 dX12_trips_147 (by decide) rfl rfl ?_
                        refine e_iload 151 dX12_trips_149 rfl rfl ?_
                        refine e_if_le 154 256 dX12_trips_151 (by omega) (by decide) rfl (fun b151 => ?_) (fun b151 => ?_)
                        · first
                           | (exfalso; omega)
                           | (skip
                              refine e_iinc (lsn := [(4, _), (5, _), (0, _), (1, _), (2, _), (3, _)]) 259 dX12_trips_256 rfl (by decide) rfl rfl ?_
                              refine e_goto 108 dX12_trips_259 (by decide) ?_
                              refine e_ls (ls2 := [(0, _), (1, _), (2, _), (3, _), (4, _)]) rfl ?_
                              refine ih (s + 1) (by omega) _ (hS.set (by omega)) (hk.put (fun _ => ?_)) _ (by omega)
                              rw [← hss, jset_same, hs0, sel_0]
                              exact ⟨lst_nil (by decide), Or.inr (by omega)⟩)
                        · (exfalso; omega))
                  · (exfalso; omega)))
    case neg =>
      rw [if_neg (by omega)] at hk
      refine e_iload 110 dX12_trips_108 rfl rfl ?_
      refine e_sipush 113 dX12_trips_110 (by decide) rfl ?_
      refine e_icmp_ge 116 262 dX12_trips_113 (by omega) (by decide) (by decide) rfl (fun b113 => ?_) (fun b113 => ?_)
      · omega
      · skip
        refine e_aload_n (i := 0) 117 dX12_trips_116 rfl rfl rfl ?_
        refine e_getr (j := 27) 120 fl_12_57 dX12_trips_117 at_928 rfl rfl tp_928_27 rfl ?_
        refine e_iload 122 dX12_trips_120 rfl rfl ?_
        refine e_iload 124 dX12_trips_122 rfl rfl ?_
        refine e_if_ne 127 131 dX12_trips_124 (by omega) (by decide) rfl (fun b124 => ?_) (fun b124 => ?_)
        · skip
          refine e_iconst 132 dX12_trips_131 rfl ?_
          refine e_iast 133 dX12_trips_132 ar_942 (by omega) (by omega) (by decide) rfl ?_
          refine e_iload 135 dX12_trips_133 rfl rfl ?_
          refine e_iload_n (i := 2) 136 dX12_trips_135 rfl rfl rfl ?_
          refine e_iconst 137 dX12_trips_136 rfl ?_
          refine e_ixor 138 dX12_trips_137 rfl ?_
          refine e_iand 139 dX12_trips_138 rfl ?_
          rw [hnb]
          refine e_if_eq 142 145 dX12_trips_139 (by omega) (by decide) rfl (fun b139 => ?_) (fun b139 => ?_)
          · skip
            refine e_iload 147 dX12_trips_145 rfl rfl ?_
            refine e_istore (lsn := [(5, _), (0, _), (1, _), (2, _), (3, _), (4, _)]) 149 dX12_trips_147 (by decide) rfl rfl ?_
            refine e_ls (ls2 := [(0, _), (1, _), (2, _), (3, _), (4, _), (5, _)]) rfl ?_
            have hsb2 : s &&& b = s := by omega
            refine lm_tp hC hbb hb8 har hok hss hsn hsb2 (fun W2 hS2 hL2 hP2 hB2 => ?_) (s + 1) s (by omega) (Nat.and_self s) _ (hS.set (by omega)) hk ?_ (Or.inl jset_same) ss hss _ rfl
            · refine e_iinc (lsn := [(4, _), (0, _), (1, _), (2, _), (3, _), (5, _)]) 259 dX12_trips_256 rfl (by decide) rfl rfl ?_
              refine e_goto 108 dX12_trips_259 (by decide) ?_
              refine e_ls (ls2 := [(0, _), (1, _), (2, _), (3, _), (4, _)]) rfl ?_
              rw [hss] at hP2 hB2
              exact ih (s + 1) (by omega) W2 hS2 (hL2.put (fun _ => ⟨hP2.all hsn hs0, hB2⟩)) _ (by omega)
            · rw [jset_same]
              exact Part.nil (fun q hq2 => by
                have := (sub_xor 8 q s hsn hq2.1.1).1
                have := hq2.2
                omega)
          · skip
            refine e_goto 256 dX12_trips_142 (by decide) ?_
            refine e_iinc (lsn := [(4, _), (0, _), (1, _), (2, _), (3, _)]) 259 dX12_trips_256 rfl (by decide) rfl rfl ?_
            refine e_goto 108 dX12_trips_259 (by decide) ?_
            refine e_ls (ls2 := [(0, _), (1, _), (2, _), (3, _), (4, _)]) rfl ?_
            refine ih (s + 1) (by omega) _ (hS.set (by omega)) (hk.put (fun z => ?_)) _ (by omega)
            exfalso
            omega
        · (exfalso; omega)

theorem lm_chk {X : jX} {M : jM} {Q : Int → jM → Prop} (hC : CR M) {fr bits arms : Int} (hf : -2147483648 ≤ fr ∧ fr ≤ 2147483647) (hb : 0 ≤ bits ∧ bits ≤ 255) (h5 : ¬ pickOk (M 929) bits fr 8 → Q (-5) M) (hk : pickOk (M 929) bits fr 8 → ∀ ii : Int, jE X yX12_trips cX12_trips 7 (some .int) 3 Q M 105 [(0, jR 928), (1, jI fr), (2, jI bits), (3, jI arms), (4, jI ii)] []) : ∀ n i : Nat, i + n = 8 → ∀ ii : Int, ii = i → pickOk (M 929) bits fr i → jE X yX12_trips cX12_trips 7 (some .int) 3 Q M 35 [(0, jR 928), (1, jI fr), (2, jI bits), (3, jI arms), (4, jI ii)] [] := by
  intro n
  induction n with
  | zero =>
    intro i hi ii hii hok
    have e8 : i = 8 := by omega
    subst e8
    refine e_iload 37 dX12_trips_35 rfl rfl ?_
    refine e_bipush 39 dX12_trips_37 (by decide) rfl ?_
    refine e_icmp_ge 42 105 dX12_trips_39 (by omega) (by decide) (by decide) rfl (fun b39 => ?_) (fun b39 => ?_)
    · skip
      exact hk hok _
    · omega
  | succ n ih =>
    intro i hi ii hii hok
    have hj1 := jand_1 (jshr bits i)
    have hn := hC.cnt
    have hg := hC.rng
    rw [hii]
    refine e_iload 37 dX12_trips_35 rfl rfl ?_
    refine e_bipush 39 dX12_trips_37 (by decide) rfl ?_
    refine e_icmp_ge 42 105 dX12_trips_39 (by omega) (by decide) (by decide) rfl (fun b39 => ?_) (fun b39 => ?_)
    · omega
    · skip
      refine e_iload_n (i := 1) 43 dX12_trips_42 rfl rfl rfl ?_
      refine e_i2l 44 dX12_trips_43 (by omega) rfl ?_
      refine e_iload 46 dX12_trips_44 rfl rfl ?_
      refine e_i2l 47 dX12_trips_46 (by omega) rfl ?_
      refine e_ladd 48 dX12_trips_47 rfl ?_
      refine e_lstore (lsn := [(5, _), (0, _), (1, _), (2, _), (3, _), (4, _)]) 50 dX12_trips_48 (by decide) rfl rfl ?_
      refine e_iload_n (i := 2) 51 dX12_trips_50 rfl rfl rfl ?_
      refine e_iload 53 dX12_trips_51 rfl rfl ?_
      refine e_ishr 54 dX12_trips_53 rfl ?_
      refine e_iconst 55 dX12_trips_54 rfl ?_
      refine e_iand 56 dX12_trips_55 rfl ?_
      refine e_iconst 57 dX12_trips_56 rfl ?_
      refine e_icmp_ne 60 99 dX12_trips_57 (by omega) (by decide) (by decide) rfl (fun b57 => ?_) (fun b57 => ?_)
      · skip
        refine e_iinc (lsn := [(4, _), (5, _), (0, _), (1, _), (2, _), (3, _)]) 102 dX12_trips_99 rfl (by decide) rfl rfl ?_
        refine e_goto 35 dX12_trips_102 (by decide) ?_
        refine e_ls (ls2 := [(0, _), (1, _), (2, _), (3, _), (4, _)]) rfl ?_
        refine ih (i + 1) (by omega) _ (by omega) ?_
        rw [pickOk, pickL, if_neg (by omega)]
        exact hok
      · skip
        have hon : pickL bits fr (i + 1) = pickL bits fr i ++ [fr + i] := by rw [pickL, if_pos (by omega)]
        refine e_lload 62 dX12_trips_60 rfl rfl ?_
        refine e_lconst0 63 dX12_trips_62 rfl ?_
        refine e_aload_n (i := 0) 64 dX12_trips_63 rfl rfl rfl ?_
        refine e_getr (j := 1) 67 fl_12_13 dX12_trips_64 at_928 rfl rfl tp_928_1 rfl ?_
        refine e_sipush 70 dX12_trips_67 (by decide) rfl ?_
        refine e_iald 71 dX12_trips_70 ar_929 (by decide) (by decide) rfl (fun r70 => ?_)
        refine e_iconst 72 dX12_trips_71 rfl ?_
        refine e_isub 73 dX12_trips_72 rfl ?_
        refine e_i2l 74 dX12_trips_73 (by omega) rfl ?_
        refine e_callS 77 mt_yX12_within ms_yX12_within wd_1390 (by decide) dX12_trips_74 rfl rfl (Nat.le_of_ble_eq_true rfl) (jroom (by decide)) rfl (m_within (by omega) (by omega) (by omega) (fun w74 => ?_) (fun w74 => ?_))
        · dsimp only [jpush]
          refine e_if_eq 80 96 dX12_trips_77 (by decide) (by decide) rfl (fun h => absurd h (by decide)) (fun _ => ?_)
          refine e_aload_n (i := 0) 81 dX12_trips_80 rfl rfl rfl ?_
          refine e_getr (j := 1) 84 fl_12_13 dX12_trips_81 at_928 rfl rfl tp_928_1 rfl ?_
          refine e_sipush 87 dX12_trips_84 (by decide) rfl ?_
          refine e_lload 89 dX12_trips_87 rfl rfl ?_
          refine e_l2i 90 dX12_trips_89 rfl ?_
          refine e_iadd 91 dX12_trips_90 rfl ?_
          have hpr := hC.plr (p := fr + i) (by omega) (by omega)
          refine e_iald 92 dX12_trips_91 ar_929 (by omega) (by omega) rfl (fun r91 => ?_)
          refine e_iconst 93 dX12_trips_92 rfl ?_
          refine e_icmp_ne 96 99 dX12_trips_93 (by omega) (by decide) (by decide) rfl (fun b93 => ?_) (fun b93 => ?_)
          · skip
            refine e_iinc (lsn := [(4, _), (5, _), (0, _), (1, _), (2, _), (3, _)]) 102 dX12_trips_99 rfl (by decide) rfl rfl ?_
            refine e_goto 35 dX12_trips_102 (by decide) ?_
            refine e_ls (ls2 := [(0, _), (1, _), (2, _), (3, _), (4, _)]) rfl ?_
            refine ih (i + 1) (by omega) _ (by omega) ?_
            rw [pickOk, hon]
            intro p hp2
            rcases List.mem_append.mp hp2 with q | q
            · exact hok p q
            · rw [List.mem_singleton.mp q]
              omega
          · skip
            refine e_bipush 98 dX12_trips_96 (by decide) rfl ?_
            refine e_iret dX12_trips_98 ?_
            first
              | (exfalso; omega)
              | (refine h5 (fun q => ?_)
                 have q2 := pickOk_le (show i + 1 ≤ 8 by omega) q (fr + i) (by rw [hon]; exact List.mem_append_right _ (List.mem_singleton.mpr rfl))
                 omega)
        · dsimp only [jpush]
          refine e_if_eq 80 96 dX12_trips_77 (by decide) (by decide) rfl (fun _ => ?_) (fun h => absurd h (by decide))
          refine e_bipush 98 dX12_trips_96 (by decide) rfl ?_
          refine e_iret dX12_trips_98 ?_
          first
            | (exfalso; omega)
            | (refine h5 (fun q => ?_)
               have q2 := pickOk_le (show i + 1 ≤ 8 by omega) q (fr + i) (by rw [hon]; exact List.mem_append_right _ (List.mem_singleton.mpr rfl))
               omega)

theorem m_trips {fr bits arms : Int} {M : jM} {Q : Int → jM → Prop} (hC : CR M) (ht : M 928 0 = 0) (hf : -2147483648 ≤ fr ∧ fr ≤ 2147483647) (hbb : -2147483648 ≤ bits ∧ bits ≤ 2147483647) (haa : -2147483648 ≤ arms ∧ arms ≤ 2147483647) (h3 : (bits < 0 ∨ 255 < bits) ∨ arms < 1 ∨ 99 < arms → Q (-3) M) (h5 : ((0 ≤ bits ∧ bits ≤ 255) ∧ 1 ≤ arms ∧ arms ≤ 99) ∧ ¬ pickOk (M 929) bits fr 8 → Q (-5) M) (h0 : ((0 ≤ bits ∧ bits ≤ 255) ∧ 1 ≤ arms ∧ arms ≤ 99) ∧ pickOk (M 929) bits fr 8 → ∀ (Z : jM) (v : Int), Scr M Z → Lst (tripT (M 929) arms) (pickL bits fr 8) (-1) v → Q v Z) : jCt yX12_trips cX12_trips 7 (some .int) 3 [jR 928, jI fr, jI bits, jI arms] M Q := by
  refine jCt_of mt_yX12_trips (Nat.le_of_ble_eq_true rfl) (fun X => ?_)
  refine e_aload_n (i := 0) 1 dX12_trips_0 rfl rfl rfl ?_
  refine e_iconst 2 dX12_trips_1 rfl ?_
  refine e_put0 (j := 0) 5 fl_12_1 dX12_trips_2 at_928 rfl rfl rfl (by decide) ht rfl ?_
  refine e_iload_n (i := 2) 6 dX12_trips_5 rfl rfl rfl ?_
  refine e_i2l 7 dX12_trips_6 (by omega) rfl ?_
  refine e_lconst0 8 dX12_trips_7 rfl ?_
  refine e_ldc2 (z := (255)) 11 (ix := 294) wd_1657 (by decide) dX12_trips_8 rfl ?_
  refine e_callS 14 mt_yX12_within ms_yX12_within wd_1390 (by decide) dX12_trips_11 rfl rfl (Nat.le_of_ble_eq_true rfl) (jroom (by decide)) rfl (m_within (by omega) (by omega) (by omega) (fun w11 => ?_) (fun w11 => ?_))
  · dsimp only [jpush]
    refine e_if_eq 17 29 dX12_trips_14 (by decide) (by decide) rfl (fun h => absurd h (by decide)) (fun _ => ?_)
    refine e_iload_n (i := 3) 18 dX12_trips_17 rfl rfl rfl ?_
    refine e_i2l 19 dX12_trips_18 (by omega) rfl ?_
    refine e_lconst1 20 dX12_trips_19 rfl ?_
    refine e_ldc2 (z := (99)) 23 (ix := 211) wd_1496 (by decide) dX12_trips_20 rfl ?_
    refine e_callS 26 mt_yX12_within ms_yX12_within wd_1390 (by decide) dX12_trips_23 rfl rfl (Nat.le_of_ble_eq_true rfl) (jroom (by decide)) rfl (m_within (by omega) (by omega) (by omega) (fun w23 => ?_) (fun w23 => ?_))
    · dsimp only [jpush]
      refine e_if_ne 29 32 dX12_trips_26 (by decide) (by decide) rfl (fun _ => ?_) (fun h => absurd h (by decide))
      refine e_iconst 33 dX12_trips_32 rfl ?_
      refine e_istore (lsn := [(4, _), (0, _), (1, _), (2, _), (3, _)]) 35 dX12_trips_33 (by decide) rfl rfl ?_
      refine e_ls (ls2 := [(0, _), (1, _), (2, _), (3, _), (4, _)]) rfl ?_
      refine lm_chk hC hf (by omega) (fun z => h5 ⟨by omega, z⟩) (fun hok ii => ?_) 8 0 rfl _ rfl (fun p hp => absurd hp List.not_mem_nil)
      have ebits : bits = (bits.toNat : Int) := by omega
      have hsel := sel_pick (fr := fr) ebits (by omega) 8 (by omega)
      refine e_iconst 106 dX12_trips_105 rfl ?_
      refine e_istore (lsn := [(4, _), (0, _), (1, _), (2, _), (3, _)]) 108 dX12_trips_106 (by decide) rfl rfl ?_
      refine e_ls (ls2 := [(0, _), (1, _), (2, _), (3, _), (4, _)]) rfl ?_
      exact lm_fill hC ebits (by omega) (by omega) (by rw [hsel]; exact hok) (by rw [hsel]; exact h0 ⟨by omega, hok⟩) 256 0 rfl M Scr.rf (fun S hS => absurd hS (Nat.not_lt_zero S)) _ rfl
    · dsimp only [jpush]
      refine e_if_ne 29 32 dX12_trips_26 (by decide) (by decide) rfl (fun h => absurd h (by decide)) (fun _ => ?_)
      refine e_bipush 31 dX12_trips_29 (by decide) rfl ?_
      refine e_iret dX12_trips_31 ?_
      exact h3 (by omega)
  · dsimp only [jpush]
    refine e_if_eq 17 29 dX12_trips_14 (by decide) (by decide) rfl (fun _ => ?_) (fun h => absurd h (by decide))
    refine e_bipush 31 dX12_trips_29 (by decide) rfl ?_
    refine e_iret dX12_trips_31 ?_
    exact h3 (by omega)

theorem c_trips {fr bits arms : Int} {M : jM} {Q : Int → jM → Prop} (hC : CR M) (hf : -2147483648 ≤ fr ∧ fr ≤ 2147483647) (hbb : -2147483648 ≤ bits ∧ bits ≤ 2147483647) (haa : -2147483648 ≤ arms ∧ arms ≤ 2147483647) (h3 : (bits < 0 ∨ 255 < bits) ∨ arms < 1 ∨ 99 < arms → Q (-3) M) (h5 : ((0 ≤ bits ∧ bits ≤ 255) ∧ 1 ≤ arms ∧ arms ≤ 99) ∧ ¬ pickOk (M 929) bits fr 8 → ∀ Y : jM, Scr M Y → Q (-5) Y) (h0 : ((0 ≤ bits ∧ bits ≤ 255) ∧ 1 ≤ arms ∧ arms ≤ 99) ∧ pickOk (M 929) bits fr 8 → ∀ (Z : jM) (v : Int), Scr M Z → Lst (tripT (M 929) arms) (pickL bits fr 8) (-1) v → Q v Z) : jCt yX11_trips cX11_trips 4 (some .int) 3 [jR 0, jI fr, jI bits, jI arms] M Q := by
  refine jCt_of mt_yX11_trips (Nat.le_of_ble_eq_true rfl) (fun X => ?_)
  refine e_iload_n (i := 2) 1 dX11_trips_0 rfl rfl rfl ?_
  refine e_iconst 2 dX11_trips_1 rfl ?_
  refine e_sipush 5 dX11_trips_2 (by decide) rfl ?_
  refine e_callS 8 mt_yX11_within ms_yX11_within wd_531 (by decide) dX11_trips_5 rfl rfl (Nat.le_of_ble_eq_true rfl) (jroom (by decide)) rfl (c_within (by omega) (by omega) (by omega) (fun w5 => ?_) (fun w5 => ?_))
  · dsimp only [jpush]
    refine e_if_eq 11 21 dX11_trips_8 (by decide) (by decide) rfl (fun h => absurd h (by decide)) (fun _ => ?_)
    refine e_iload_n (i := 3) 12 dX11_trips_11 rfl rfl rfl ?_
    refine e_iconst 13 dX11_trips_12 rfl ?_
    refine e_bipush 15 dX11_trips_13 (by decide) rfl ?_
    refine e_callS 18 mt_yX11_within ms_yX11_within wd_531 (by decide) dX11_trips_15 rfl rfl (Nat.le_of_ble_eq_true rfl) (jroom (by decide)) rfl (c_within (by omega) (by omega) (by omega) (fun w15 => ?_) (fun w15 => ?_))
    · dsimp only [jpush]
      refine e_if_ne 21 24 dX11_trips_18 (by decide) (by decide) rfl (fun _ => ?_) (fun h => absurd h (by decide))
      refine e_aload_n (i := 0) 25 dX11_trips_24 rfl rfl rfl ?_
      refine e_getr (j := 5) 28 fl_11_41 dX11_trips_25 at_0 rfl rfl tp_0_5 rfl ?_
      refine e_aload_n (i := 0) 29 dX11_trips_28 rfl rfl rfl ?_
      refine e_getr (j := 0) 32 fl_11_10 dX11_trips_29 at_0 rfl rfl tp_0_0 rfl ?_
      refine e_iload_n (i := 1) 33 dX11_trips_32 rfl rfl rfl ?_
      refine e_iload_n (i := 2) 34 dX11_trips_33 rfl rfl rfl ?_
      refine e_callV 37 mt_yX4_gather mv_yX4_gather wd_958 (by decide) dX11_trips_34 at_903 jc_4 rfl rfl rfl (Nat.le_of_ble_eq_true rfl) (jroom (by decide)) rfl (c_gather hC hf (by omega) (fun w34 Y34 hG34 => ?_) (fun w34 Y34 hG34 => ?_))
      · dsimp only [jpush]
        refine e_if_ne 40 43 dX11_trips_37 (by decide) (by decide) rfl (fun h => absurd h (by decide)) (fun _ => ?_)
        refine e_bipush 42 dX11_trips_40 (by decide) rfl ?_
        refine e_iret dX11_trips_42 ?_
        exact h5 ⟨by omega, w34⟩ Y34 hG34
      · dsimp only [jpush]
        refine e_if_ne 40 43 dX11_trips_37 (by decide) (by decide) rfl (fun _ => ?_) (fun h => absurd h (by decide))
        refine e_aload_n (i := 0) 44 dX11_trips_43 rfl rfl rfl ?_
        refine e_getr (j := 5) 47 fl_11_41 dX11_trips_44 at_0 rfl rfl tp_0_5 rfl ?_
        refine e_iload_n (i := 3) 48 dX11_trips_47 rfl rfl rfl ?_
        refine e_callV 51 mt_yX4_leastTrips mv_yX4_leastTrips wd_1153 (by decide) dX11_trips_48 at_903 jc_4 rfl rfl rfl (Nat.le_of_ble_eq_true rfl) (jroom (by decide)) rfl (c_leastTrips hC (by omega) hG34 (pickL_len bits fr 8) w34 (fun Z48 v48 hZ48 hV48 => ?_))
        dsimp only [jpush]
        refine e_iret dX11_trips_51 ?_
        exact h0 ⟨by omega, w34⟩ Z48 v48 hZ48 hV48
    · dsimp only [jpush]
      refine e_if_ne 21 24 dX11_trips_18 (by decide) (by decide) rfl (fun h => absurd h (by decide)) (fun _ => ?_)
      refine e_bipush 23 dX11_trips_21 (by decide) rfl ?_
      refine e_iret dX11_trips_23 ?_
      exact h3 (by omega)
  · dsimp only [jpush]
    refine e_if_eq 11 21 dX11_trips_8 (by decide) (by decide) rfl (fun _ => ?_) (fun h => absurd h (by decide))
    refine e_bipush 23 dX11_trips_21 (by decide) rfl ?_
    refine e_iret dX11_trips_23 ?_
    exact h3 (by omega)

theorem p_trips {M : jM} (hI : Inv M) {fr : Int} (hfr : -2147483648 ≤ fr ∧ fr ≤ 2147483647) {bits : Int} (hbits : -2147483648 ≤ bits ∧ bits ≤ 2147483647) {arms : Int} (harms : -2147483648 ≤ arms ∧ arms ≤ 2147483647) : jCt yX11_trips cX11_trips 4 (some .int) 3 [jR 0, jI fr, jI bits, jI arms] M (fun z M1 => jCt yX12_trips cX12_trips 7 (some .int) 3 [jR 928, jI fr, jI bits, jI arms] M1 (fun z2 M2 => z = z2 ∧ Inv M2)) := by
  have hC := hI.cr
  refine c_trips hC hfr hbits harms (fun w => ?_) (fun w Y hY => ?_) (fun w Y v hY hv => ?_)
  · exact m_trips hC hI.1 hfr hbits harms (fun _ => ⟨rfl, hI⟩) (fun w2 => by omega) (fun w2 => by omega)
  · have hIY := hI.scr hY
    have e9 := hY.row
    refine m_trips hIY.cr hIY.1 hfr hbits harms (fun w2 => by omega) (fun _ => ⟨rfl, hIY⟩) (fun w2 => ?_)
    rw [e9] at w2
    exact absurd w2.2 w.2
  · have hIY := hI.scr hY
    have e9 := hY.row
    refine m_trips hIY.cr hIY.1 hfr hbits harms (fun w2 => by omega) (fun w2 => ?_) (fun _ Z u hZ hu => ?_)
    · rw [e9] at w2
      exact absurd w.2 w2.2
    · rw [e9] at hu
      have e := hv.same hu
      exact ⟨by omega, hIY.scr hZ⟩

