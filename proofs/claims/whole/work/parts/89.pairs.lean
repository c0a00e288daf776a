/-! BEST *** the class: placing, whole *** -/
theorem c_placing {M Y : jM} {Q : Int → jM → Prop} (hC : CR M) (hS : Scr M Y) {n : Nat} {nn i : Int} (hnn : nn = n) (hn7 : 1 ≤ n ∧ n ≤ 7) (hi : -2147483648 ≤ i ∧ i ≤ 2147483647) (hit0 : ∀ j : Int, 0 ≤ j → j < n → (1 ≤ Y 904 j ∧ Y 904 j ≤ 9) ∧ 0 ≤ Y 905 j ∧ Y 905 j ≤ 99) (h : ∀ (Z : jM) (v : Int), Scr M Z → LBM (M 929) Y n (M 929 1761).toNat (2 ^ n - 1) v → Q (bestAns v nn i) Z) : jCt yX4_placing cX4_placing 7 (some .int) 4 [jR 903, jR 1, jI nn, jI i] Y Q := by
  refine jCt_of mt_yX4_placing (Nat.le_of_ble_eq_true rfl) (fun X => ?_)
  have hg := hC.rng
  have hit : ∀ j : Int, 0 ≤ j → j < n → (0 ≤ Y 904 j ∧ Y 904 j ≤ 200000000) ∧ 0 ≤ Y 905 j ∧ Y 905 j ≤ 200000000 := fun j a b => by
    have := hit0 j a b
    omega
  have hsh : jshl 1 nn = ((2 ^ n : Nat) : Int) := by
    have e := jshl1 ⟨n, by omega⟩
    rw [hnn]
    exact e
  have hp8 : 2 ^ n ≤ 128 := Nat.pow_le_pow_right (by decide) hn7.2
  have hp1 : 2 ≤ 2 ^ n := Nat.pow_le_pow_right (n := 2) (by decide) hn7.1
  refine e_iconst 1 dX4_placing_0 rfl ?_
  refine e_iload_n (i := 2) 2 dX4_placing_1 rfl rfl rfl ?_
  refine e_ishl 3 dX4_placing_2 rfl ?_
  rw [hsh]
  refine e_iconst 4 dX4_placing_3 rfl ?_
  refine e_isub 5 dX4_placing_4 rfl ?_
  refine e_istore (lsn := [(4, _), (0, _), (1, _), (2, _), (3, _)]) 7 dX4_placing_5 (by decide) rfl rfl ?_
  refine e_aload_n (i := 0) 8 dX4_placing_7 rfl rfl rfl ?_
  refine e_iload_n (i := 2) 9 dX4_placing_8 rfl rfl rfl ?_
  refine e_callV 12 mt_yX4_sumSets mv_yX4_sumSets wd_993 (by decide) dX4_placing_9 at_903 jc_4 rfl rfl rfl (Nat.le_of_ble_eq_true rfl) (jroom (by decide)) rfl (c_sumSets hnn (by omega) hit (fun Z9 hO9 hK9 => ?_))
  dsimp only [jpush]
  have e4 : Z9 904 = Y 904 := hO9 904 (by omega)
  have e5 : Z9 905 = Y 905 := hO9 905 (by omega)
  have hI : ItemsB (sumS (Z9 904) n) (sumS (Z9 905) n) (sumS FIG n) n Z9 := by
    rw [e4, e5]
    refine ⟨⟨sumS_0 n, sumS_0 n⟩, fun S hS2 => ?_⟩
    have q := hK9 S hS2
    have b1 := sumS_rng (f := Y 904) n S (fun j a b => (hit j a b).1)
    have b2 := sumS_rng (f := Y 905) n S (fun j a b => (hit j a b).2)
    have b3 := (sumS_tot (f := Y 905) (g := fun _ => 99) n S (fun j a b => by have := hit0 j a b; omega)).1
    have b4 := tot_99 ⟨n, by omega⟩
    have b4 : totS (fun _ => 99) n ≤ 800 := b4
    have hF : ∀ j : Int, 0 ≤ j → j < n → 0 ≤ FIG j ∧ FIG j ≤ 200000000 := fun j a b => by
      have q := FIG_rng ⟨j.toNat, by omega⟩
      rw [show ((j.toNat : Nat) : Int) = j by omega] at q
      omega
    have b5 := sumS_rng (f := FIG) n S hF
    have b6 := (sumS_tot (f := FIG) (g := FIG) n S (fun j a b => ⟨(hF j a b).1, Int.le_refl _⟩)).1
    have b7 : totS FIG n ≤ 2000000 := tot_FIG ⟨n, by omega⟩
    exact ⟨q.1, q.2.1, q.2.2.1, by omega, by omega, by omega⟩
  have hSZ : Scr M Z9 := fun k j u v => by
    rw [hO9 k (by omega)]
    exact hS k j u v
  refine e_iconst 13 dX4_placing_12 rfl ?_
  refine e_istore (lsn := [(5, _), (4, _), (0, _), (1, _), (2, _), (3, _)]) 15 dX4_placing_13 (by decide) rfl rfl ?_
  refine e_ls (ls2 := [(0, _), (1, _), (2, _), (3, _), (4, _), (5, _)]) rfl ?_
  refine l_np (all := ((2 ^ n : Nat) : Int) - 1) hC hSZ hnn hn7 rfl hi (fun W1 hO1 hW1 => ?_) (2 ^ n - 1) 1 (by omega) (by omega) Z9 (fun _ _ => rfl) (fun S a b => by omega) _ rfl
  refine e_aload_n (i := 0) 39 dX4_placing_38 rfl rfl rfl ?_
  refine e_getr (j := 7) 42 fl_4_30 dX4_placing_39 at_903 rfl rfl tp_903_7 rfl ?_
  refine e_iconst 43 dX4_placing_42 rfl ?_
  refine e_lconst0 44 dX4_placing_43 rfl ?_
  refine e_last 45 dX4_placing_44 ar_910 (by decide) (by decide) (by decide) rfl ?_
  refine e_iconst 46 dX4_placing_45 rfl ?_
  refine e_istore (lsn := [(5, _), (0, _), (1, _), (2, _), (3, _), (4, _)]) 48 dX4_placing_46 (by decide) rfl rfl ?_
  refine e_ls (ls2 := [(0, _), (1, _), (2, _), (3, _), (4, _), (5, _)]) rfl ?_
  refine l_rk (all := ((2 ^ n : Nat) : Int) - 1) hC hSZ hnn hn7 rfl hi hI (fun W3 hO3 hL3 => ?_) (M 929 1761).toNat 0 (by omega) _ hO1.set (fun S hS3 => ?_) _ rfl
  · have hS3 := hO3.scr hSZ
    have hb := hL3.2
    have hL4 : LBM (M 929) Y n (M 929 1761).toNat (2 ^ n - 1) (W3 910 (((2 ^ n : Nat) : Int) - 1)) := by
      unfold LBM
      rw [← e4, ← e5]
      exact hL3
    have h3 := h W3 _ hS3 hL4
    unfold bestAns at h3
    refine e_aload_n (i := 0) 87 dX4_placing_86 rfl rfl rfl ?_
    refine e_getr (j := 7) 90 fl_4_30 dX4_placing_87 at_903 rfl rfl tp_903_7 rfl ?_
    refine e_iload 92 dX4_placing_90 rfl rfl ?_
    refine e_lald 93 dX4_placing_92 ar_910 (by omega) (by omega) rfl (fun r92 => ?_)
    refine e_lstore (lsn := [(5, _), (0, _), (1, _), (2, _), (3, _), (4, _)]) 95 dX4_placing_93 (by decide) rfl rfl ?_
    refine e_lload 97 dX4_placing_95 rfl rfl ?_
    refine e_ldc2 (z := (4611686018427387904)) 100 (ix := 112) wd_1000 (by decide) dX4_placing_97 rfl ?_
    refine e_lcmp 101 dX4_placing_100 (by omega) (by decide) rfl (fun b100 => ?_) (fun b100 => ?_) (fun b100 => ?_)
    · skip
      refine e_if_eq 104 114 dX4_placing_101 (by decide) (by decide) rfl (fun h => absurd h (by decide)) (fun _ => ?_)
      refine e_iload_n (i := 3) 105 dX4_placing_104 rfl rfl rfl ?_
      refine e_iconst 106 dX4_placing_105 rfl ?_
      refine e_icmp_lt 109 114 dX4_placing_106 (by omega) (by decide) (by decide) rfl (fun b106 => ?_) (fun b106 => ?_)
      · skip
        refine e_iconst 115 dX4_placing_114 rfl ?_
        refine e_iret dX4_placing_115 ?_
        first
          | (exfalso; omega)
          | (rw [if_pos (by omega)] at h3
             exact h3)
      · skip
        refine e_iload_n (i := 3) 110 dX4_placing_109 rfl rfl rfl ?_
        refine e_iload_n (i := 2) 111 dX4_placing_110 rfl rfl rfl ?_
        refine e_icmp_lt 114 116 dX4_placing_111 (by omega) (by omega) (by decide) rfl (fun b111 => ?_) (fun b111 => ?_)
        · skip
          refine e_iload_n (i := 3) 117 dX4_placing_116 rfl rfl rfl ?_
          refine e_iconst 118 dX4_placing_117 rfl ?_
          refine e_icmp_ne 121 130 dX4_placing_118 (by omega) (by decide) (by decide) rfl (fun b118 => ?_) (fun b118 => ?_)
          · skip
            have hF : 1 ≤ (jzt 5).getD i.toNat 0 ∧ (jzt 5).getD i.toNat 0 ≤ 1000000 := FIG_pos ⟨i.toNat, by omega⟩
            have hd1 : (W3 910 (((2 ^ n : Nat) : Int) - 1)).tdiv ((jzt 5).getD i.toNat 0) = (W3 910 (((2 ^ n : Nat) : Int) - 1)) / ((jzt 5).getD i.toNat 0) := Int.tdiv_eq_ediv_of_nonneg (by omega)
            have hd2 : 0 ≤ (W3 910 (((2 ^ n : Nat) : Int) - 1)) / ((jzt 5).getD i.toNat 0) := Int.ediv_nonneg (by omega) (by omega)
            have hd3 : (W3 910 (((2 ^ n : Nat) : Int) - 1)) / ((jzt 5).getD i.toNat 0) ≤ W3 910 (((2 ^ n : Nat) : Int) - 1) := Int.ediv_le_self _ (by omega)
            refine e_lload 132 dX4_placing_130 rfl rfl ?_
            refine e_gets 135 (i := 5) (by decide) wd_997 dX4_placing_132 rfl ?_
            refine e_iload_n (i := 3) 136 dX4_placing_135 rfl rfl rfl ?_
            refine e_tald 137 (i := 5) (by decide) dX4_placing_136 (by omega) (by show i.toNat < 7; omega) rfl ?_
            refine e_i2l 138 dX4_placing_137 (by omega) rfl ?_
            refine e_ldiv 139 dX4_placing_138 (by omega) (by omega) (by omega) rfl ?_
            rw [hd1]
            refine e_ldc2 (z := (10)) 142 (ix := 129) wd_1008 (by decide) dX4_placing_139 rfl ?_
            refine e_lrem 143 dX4_placing_142 (by omega) (by decide) (by decide) rfl ?_
            refine e_l2i 144 dX4_placing_143 rfl ?_
            refine e_iret dX4_placing_144 ?_
            first
              | (exfalso; omega)
              | (rw [if_neg (by omega), if_neg (by omega)] at h3
                 have e : FIG i = (jzt 5).getD i.toNat 0 := by unfold FIG; rw [if_pos (by omega)]
                 rw [e] at h3
                 rw [Int.tmod_eq_emod_of_nonneg hd2]
                 exact h3)
          · skip
            refine e_lload 123 dX4_placing_121 rfl rfl ?_
            refine e_ldc2 (z := (10000000)) 126 (ix := 124) wd_1006 (by decide) dX4_placing_123 rfl ?_
            refine e_ldiv 127 dX4_placing_126 (by omega) (by decide) (by decide) rfl ?_
            refine e_goto 143 dX4_placing_127 (by decide) ?_
            refine e_l2i 144 dX4_placing_143 rfl ?_
            refine e_iret dX4_placing_144 ?_
            first
              | (exfalso; omega)
              | (rw [if_neg (by omega), if_pos (by omega)] at h3
                 rw [Int.tdiv_eq_ediv_of_nonneg (by omega)]
                 exact h3)
        · skip
          refine e_iconst 115 dX4_placing_114 rfl ?_
          refine e_iret dX4_placing_115 ?_
          first
            | (exfalso; omega)
            | (rw [if_pos (by omega)] at h3
               exact h3)
    · skip
      refine e_if_eq 104 114 dX4_placing_101 (by decide) (by decide) rfl (fun _ => ?_) (fun h => absurd h (by decide))
      refine e_iconst 115 dX4_placing_114 rfl ?_
      refine e_iret dX4_placing_115 ?_
      first
        | (exfalso; omega)
        | (rw [if_pos (by omega)] at h3
           exact h3)
    · skip
      refine e_if_eq 104 114 dX4_placing_101 (by decide) (by decide) rfl (fun h => absurd h (by decide)) (fun _ => ?_)
      refine e_iload_n (i := 3) 105 dX4_placing_104 rfl rfl rfl ?_
      refine e_iconst 106 dX4_placing_105 rfl ?_
      refine e_icmp_lt 109 114 dX4_placing_106 (by omega) (by decide) (by decide) rfl (fun b106 => ?_) (fun b106 => ?_)
      · skip
        refine e_iconst 115 dX4_placing_114 rfl ?_
        refine e_iret dX4_placing_115 ?_
        first
          | (exfalso; omega)
          | (rw [if_pos (by omega)] at h3
             exact h3)
      · skip
        refine e_iload_n (i := 3) 110 dX4_placing_109 rfl rfl rfl ?_
        refine e_iload_n (i := 2) 111 dX4_placing_110 rfl rfl rfl ?_
        refine e_icmp_lt 114 116 dX4_placing_111 (by omega) (by omega) (by decide) rfl (fun b111 => ?_) (fun b111 => ?_)
        · skip
          refine e_iload_n (i := 3) 117 dX4_placing_116 rfl rfl rfl ?_
          refine e_iconst 118 dX4_placing_117 rfl ?_
          refine e_icmp_ne 121 130 dX4_placing_118 (by omega) (by decide) (by decide) rfl (fun b118 => ?_) (fun b118 => ?_)
          · skip
            have hF : 1 ≤ (jzt 5).getD i.toNat 0 ∧ (jzt 5).getD i.toNat 0 ≤ 1000000 := FIG_pos ⟨i.toNat, by omega⟩
            have hd1 : (W3 910 (((2 ^ n : Nat) : Int) - 1)).tdiv ((jzt 5).getD i.toNat 0) = (W3 910 (((2 ^ n : Nat) : Int) - 1)) / ((jzt 5).getD i.toNat 0) := Int.tdiv_eq_ediv_of_nonneg (by omega)
            have hd2 : 0 ≤ (W3 910 (((2 ^ n : Nat) : Int) - 1)) / ((jzt 5).getD i.toNat 0) := Int.ediv_nonneg (by omega) (by omega)
            have hd3 : (W3 910 (((2 ^ n : Nat) : Int) - 1)) / ((jzt 5).getD i.toNat 0) ≤ W3 910 (((2 ^ n : Nat) : Int) - 1) := Int.ediv_le_self _ (by omega)
            refine e_lload 132 dX4_placing_130 rfl rfl ?_
            refine e_gets 135 (i := 5) (by decide) wd_997 dX4_placing_132 rfl ?_
            refine e_iload_n (i := 3) 136 dX4_placing_135 rfl rfl rfl ?_
            refine e_tald 137 (i := 5) (by decide) dX4_placing_136 (by omega) (by show i.toNat < 7; omega) rfl ?_
            refine e_i2l 138 dX4_placing_137 (by omega) rfl ?_
            refine e_ldiv 139 dX4_placing_138 (by omega) (by omega) (by omega) rfl ?_
            rw [hd1]
            refine e_ldc2 (z := (10)) 142 (ix := 129) wd_1008 (by decide) dX4_placing_139 rfl ?_
            refine e_lrem 143 dX4_placing_142 (by omega) (by decide) (by decide) rfl ?_
            refine e_l2i 144 dX4_placing_143 rfl ?_
            refine e_iret dX4_placing_144 ?_
            first
              | (exfalso; omega)
              | (rw [if_neg (by omega), if_neg (by omega)] at h3
                 have e : FIG i = (jzt 5).getD i.toNat 0 := by unfold FIG; rw [if_pos (by omega)]
                 rw [e] at h3
                 rw [Int.tmod_eq_emod_of_nonneg hd2]
                 exact h3)
          · skip
            refine e_lload 123 dX4_placing_121 rfl rfl ?_
            refine e_ldc2 (z := (10000000)) 126 (ix := 124) wd_1006 (by decide) dX4_placing_123 rfl ?_
            refine e_ldiv 127 dX4_placing_126 (by omega) (by decide) (by decide) rfl ?_
            refine e_goto 143 dX4_placing_127 (by decide) ?_
            refine e_l2i 144 dX4_placing_143 rfl ?_
            refine e_iret dX4_placing_144 ?_
            first
              | (exfalso; omega)
              | (rw [if_neg (by omega), if_pos (by omega)] at h3
                 rw [Int.tdiv_eq_ediv_of_nonneg (by omega)]
                 exact h3)
        · skip
          refine e_iconst 115 dX4_placing_114 rfl ?_
          refine e_iret dX4_placing_115 ?_
          first
            | (exfalso; omega)
            | (rw [if_pos (by omega)] at h3
               exact h3)
  · by_cases e : S = 0
    · subst e
      have e2 : jset W1 910 0 0 910 ((0 : Nat) : Int) = 0 := jset_same
      rw [e2]
      exact LB.zer (sumS_0 n) (sumS_0 n)
    · rw [jset_j (by omega), hW1 S (by omega) hS3]
      exact ⟨Or.inl ⟨rfl, fun c hc => e hc.1⟩, Or.inl rfl⟩

