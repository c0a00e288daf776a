/-! BEST *** the class, whole *** -/
theorem sumS_fc {f g : Int → Int} : ∀ (j : Nat), (∀ i : Int, 0 ≤ i → i < j → f i = g i) → ∀ S, sumS f j S = sumS g j S
  | 0, _, _ => rfl
  | j + 1, h, S => by
    rw [sumS, sumS, sumS_fc j (fun i a b => h i a (by omega)) S, h j (by omega) (by omega)]
abbrev LBS (a w : Int → Int) (n : Nat) (v : Int) : Prop := LB (sumS (fun j => sizeOfP a ((looseL a n (a 709).toNat).getD j.toNat 0)) n) (sumS w n) (sumS FIG n) (fun r => rLeft a r (a 709).toNat) (fun r => a (1772 + r)) (a 1761).toNat (2 ^ n - 1) v
theorem c_best {row n i : Int} {M : jM} {Q : Int → jM → Prop} (hI : Inv M) (hrow : -2147483648 ≤ row ∧ row ≤ 2147483647) (hn0 : -2147483648 ≤ n ∧ n ≤ 2147483647) (hi : -2147483648 ≤ i ∧ i ≤ 2147483647) (h2 : row < 0 ∨ 3 < row → Q (-2) M) (h3 : (0 ≤ row ∧ row ≤ 3) ∧ (n < 1 ∨ 7 < n) → Q (-3) M) (h5 : ((0 ≤ row ∧ row ≤ 3) ∧ (1 ≤ n ∧ n ≤ 7)) ∧ (((looseL (M 929) n.toNat (M 929 709).toNat).length : Nat) : Int) < n → ∀ Y : jM, Scr M Y → Q (-5) Y) (h6 : ((0 ≤ row ∧ row ≤ 3) ∧ (1 ≤ n ∧ n ≤ 7)) ∧ ¬ (((looseL (M 929) n.toNat (M 929 709).toNat).length : Nat) : Int) < n → M 946 row = -1 → ∀ Y : jM, Scr M Y → Q (-6) Y) (h7 : ((0 ≤ row ∧ row ≤ 3) ∧ (1 ≤ n ∧ n ≤ 7)) ∧ ¬ (((looseL (M 929) n.toNat (M 929 709).toNat).length : Nat) : Int) < n → M 946 row ≠ -1 → M 947 row < n → ∀ Y : jM, Scr M Y → Q (-7) Y) (h8 : ((0 ≤ row ∧ row ≤ 3) ∧ (1 ≤ n ∧ n ≤ 7)) ∧ ¬ (((looseL (M 929) n.toNat (M 929 709).toNat).length : Nat) : Int) < n → M 946 row ≠ -1 → n ≤ M 947 row → (∃ j : Int, 0 ≤ j ∧ j < n ∧ ¬ (0 ≤ M 948 (40 * row + j) ∧ M 948 (40 * row + j) ≤ 99)) → ∀ Y : jM, Scr M Y → Q (-3) Y) (h0 : ((0 ≤ row ∧ row ≤ 3) ∧ (1 ≤ n ∧ n ≤ 7)) ∧ ¬ (((looseL (M 929) n.toNat (M 929 709).toNat).length : Nat) : Int) < n → M 946 row ≠ -1 → n ≤ M 947 row → (∀ j : Int, 0 ≤ j → j < n → 0 ≤ M 948 (40 * row + j) ∧ M 948 (40 * row + j) ≤ 99) → ∀ (Y : jM) (v : Int), Scr M Y → LBS (M 929) (fun j => M 948 (40 * row + j)) n.toNat v → Q (bestAns v n i) Y) : jCt yX11_best cX11_best 4 (some .int) 5 [jR 0, jI row, jI n, jI i] M Q := by
  refine jCt_of mt_yX11_best (Nat.le_of_ble_eq_true rfl) (fun X => ?_)
  have hC := hI.cr
  have hn := hC.cnt
  have hg := hC.rng
  refine e_iload_n (i := 1) 1 dX11_best_0 rfl rfl rfl ?_
  refine e_iconst 2 dX11_best_1 rfl ?_
  refine e_iconst 3 dX11_best_2 rfl ?_
  refine e_callS 6 mt_yX11_within ms_yX11_within wd_531 (by decide) dX11_best_3 rfl rfl (Nat.le_of_ble_eq_true rfl) (jroom (by decide)) rfl (c_within (by omega) (by omega) (by omega) (fun w3 => ?_) (fun w3 => ?_))
  · dsimp only [jpush]
    refine e_if_ne 9 12 dX11_best_6 (by decide) (by decide) rfl (fun _ => ?_) (fun h => absurd h (by decide))
    refine e_iload_n (i := 2) 13 dX11_best_12 rfl rfl rfl ?_
    refine e_iconst 14 dX11_best_13 rfl ?_
    refine e_bipush 16 dX11_best_14 (by decide) rfl ?_
    refine e_callS 19 mt_yX11_within ms_yX11_within wd_531 (by decide) dX11_best_16 rfl rfl (Nat.le_of_ble_eq_true rfl) (jroom (by decide)) rfl (c_within (by omega) (by omega) (by omega) (fun w16 => ?_) (fun w16 => ?_))
    · dsimp only [jpush]
      refine e_if_ne 22 25 dX11_best_19 (by decide) (by decide) rfl (fun _ => ?_) (fun h => absurd h (by decide))
      refine e_aload_n (i := 0) 26 dX11_best_25 rfl rfl rfl ?_
      refine e_getr (j := 5) 29 fl_11_41 dX11_best_26 at_0 rfl rfl tp_0_5 rfl ?_
      refine e_aload_n (i := 0) 30 dX11_best_29 rfl rfl rfl ?_
      refine e_getr (j := 0) 33 fl_11_10 dX11_best_30 at_0 rfl rfl tp_0_0 rfl ?_
      refine e_iload_n (i := 2) 34 dX11_best_33 rfl rfl rfl ?_
      refine e_callV 37 mt_yX4_gatherUnracked mv_yX4_gatherUnracked wd_976 (by decide) dX11_best_34 at_903 jc_4 rfl rfl rfl (Nat.le_of_ble_eq_true rfl) (jroom (by decide)) rfl (c_unracked hC (n := n.toNat) (by omega) (by omega) (fun Y34 hG34 => ?_))
      dsimp only [jpush]
      have hY := hG34.1
      have e46 : Y34 946 row = M 946 row := hY 946 row (by omega) (by omega)
      have e47 : Y34 947 row = M 947 row := hY 947 row (by omega) (by omega)
      have e95 : Y34 (895 + 2 * row) 0 = M (895 + 2 * row) 0 := hY _ 0 (by omega) (by omega)
      have e96 : ∀ j, Y34 (896 + 2 * row) j = M (896 + 2 * row) j := fun j => hY _ j (by omega) (by omega)
      have hw := hI.2.2.2.2.2.1 row (by omega) (by omega)
      have hw2 : (M (895 + 2 * row) 0 = -1 ∧ M 946 row = -1) ∨ ((0 ≤ M 946 row ∧ M 946 row ≤ 3) ∧ (0 ≤ M 947 row ∧ M 947 row ≤ 40) ∧ M (895 + 2 * row) 0 = M 947 row) := hw.imp id (fun h => ⟨h.1, h.2.1, h.2.2.1⟩)
      have hll := looseL_len (a := M 929) (n := n.toNat) (M 929 709).toNat
      refine e_iload_n (i := 2) 38 dX11_best_37 rfl rfl rfl ?_
      refine e_icmp_ge 41 44 dX11_best_38 (by omega) (by omega) (by decide) rfl (fun b38 => ?_) (fun b38 => ?_)
      · skip
        refine e_aload_n (i := 0) 45 dX11_best_44 rfl rfl rfl ?_
        refine e_getr (j := 4) 48 fl_11_33 dX11_best_45 at_0 rfl rfl tp_0_4 rfl ?_
        refine e_iload_n (i := 1) 49 dX11_best_48 rfl rfl rfl ?_
        refine e_aald 50 dX11_best_49 ar_894 (by decide) (by omega) (by omega) (tp_row (by omega) (by omega)) rfl ?_
        refine e_geti (j := 0) 53 fl_11_339 dX11_best_50 (at_row (by omega) (by omega)) (by decide) rfl rfl (fun r50 => ?_)
        refine e_iconst 54 dX11_best_53 rfl ?_
        refine e_icmp_ne 57 60 dX11_best_54 (by omega) (by decide) (by decide) rfl (fun b54 => ?_) (fun b54 => ?_)
        · skip
          refine e_aload_n (i := 0) 61 dX11_best_60 rfl rfl rfl ?_
          refine e_getr (j := 4) 64 fl_11_33 dX11_best_61 at_0 rfl rfl tp_0_4 rfl ?_
          refine e_iload_n (i := 1) 65 dX11_best_64 rfl rfl rfl ?_
          refine e_aald 66 dX11_best_65 ar_894 (by decide) (by omega) (by omega) (tp_row (by omega) (by omega)) rfl ?_
          refine e_geti (j := 0) 69 fl_11_339 dX11_best_66 (at_row (by omega) (by omega)) (by decide) rfl rfl (fun r66 => ?_)
          refine e_iload_n (i := 2) 70 dX11_best_69 rfl rfl rfl ?_
          refine e_icmp_ge 73 76 dX11_best_70 (by omega) (by omega) (by decide) rfl (fun b70 => ?_) (fun b70 => ?_)
          · skip
            refine e_aload_n (i := 0) 77 dX11_best_76 rfl rfl rfl ?_
            refine e_getr (j := 5) 80 fl_11_41 dX11_best_77 at_0 rfl rfl tp_0_5 rfl ?_
            refine e_aload_n (i := 0) 81 dX11_best_80 rfl rfl rfl ?_
            refine e_getr (j := 4) 84 fl_11_33 dX11_best_81 at_0 rfl rfl tp_0_4 rfl ?_
            refine e_iload_n (i := 1) 85 dX11_best_84 rfl rfl rfl ?_
            refine e_aald 86 dX11_best_85 ar_894 (by decide) (by omega) (by omega) (tp_row (by omega) (by omega)) rfl ?_
            refine e_iload_n (i := 2) 87 dX11_best_86 rfl rfl rfl ?_
            refine e_callV 90 mt_yX4_weigh mv_yX4_weigh wd_980 (by decide) dX11_best_87 at_903 jc_4 rfl rfl rfl (Nat.le_of_ble_eq_true rfl) (jroom (by decide)) rfl (c_weigh (n := n.toNat) (by omega) (by omega) (by omega) (fun Z87 hO87 hX87 => ?_) (fun Z87 hO87 hX87 => ?_))
            · dsimp only [jpush]
              have hw3 := (hw.resolve_left (fun q => by omega)).2.2.2.2
              have e48 : ∀ j, 0 ≤ j → j < n → Y34 (896 + 2 * row) j = M 948 (40 * row + j) := fun j a b => by rw [e96, hw3 j a (by omega)]
              have hSZ : Scr M Z87 := fun k j u v => by
                rw [hO87 k (by omega)]
                exact hY k j u v
              refine e_if_ne 93 96 dX11_best_90 (by decide) (by decide) rfl (fun h => absurd h (by decide)) (fun _ => ?_)
              refine e_bipush 95 dX11_best_93 (by decide) rfl ?_
              refine e_iret dX11_best_95 ?_
              first
                | (exfalso; omega)
                | (obtain ⟨j, a, b, c⟩ := hX87
                   exact h8 ⟨by omega, by omega⟩ (by omega) (by omega) ⟨j, a, by omega, by rw [← e48 j a (by omega)]; exact c⟩ Z87 hSZ)
            · dsimp only [jpush]
              have hw3 := (hw.resolve_left (fun q => by omega)).2.2.2.2
              have e48 : ∀ j, 0 ≤ j → j < n → Y34 (896 + 2 * row) j = M 948 (40 * row + j) := fun j a b => by rw [e96, hw3 j a (by omega)]
              have hSZ : Scr M Z87 := fun k j u v => by
                rw [hO87 k (by omega)]
                exact hY k j u v
              refine e_if_ne 93 96 dX11_best_90 (by decide) (by decide) rfl (fun _ => ?_) (fun h => absurd h (by decide))
              have hX := hX87
              have e4 : Z87 904 = Y34 904 := hO87 904 (by omega)
              have hsz : ∀ j : Int, 0 ≤ j → j < n.toNat → Z87 904 j = sizeOfP (M 929) ((looseL (M 929) n.toNat (M 929 709).toNat).getD j.toNat 0) := fun j a b => by
                have q := hG34.2.2 j.toNat (by omega)
                rw [show ((j.toNat : Nat) : Int) = j by omega] at q
                rw [e4, q]
              have hwt : ∀ j : Int, 0 ≤ j → j < n.toNat → Z87 905 j = M 948 (40 * row + j) ∧ 0 ≤ M 948 (40 * row + j) ∧ M 948 (40 * row + j) ≤ 99 := fun j a b => by
                have q := hX87 j a b
                have q2 := e48 j a (by omega)
                omega
              have hit0 : ∀ j : Int, 0 ≤ j → j < n.toNat → (1 ≤ Z87 904 j ∧ Z87 904 j ≤ 9) ∧ 0 ≤ Z87 905 j ∧ Z87 905 j ≤ 99 := fun j a b => by
                have q := hwt j a b
                rw [hsz j a b]
                have hm := looseL_mem (a := M 929) (n := n.toNat) _ _ (getD_mem (l := (looseL (M 929) n.toNat (M 929 709).toNat)) (i := j.toNat) (by omega))
                have hpr := hC.plr hm.1 (by omega)
                have hk := hC.kind hpr.1.1 hpr.1.2
                unfold sizeOfP
                omega
              refine e_aload_n (i := 0) 97 dX11_best_96 rfl rfl rfl ?_
              refine e_getr (j := 5) 100 fl_11_41 dX11_best_97 at_0 rfl rfl tp_0_5 rfl ?_
              refine e_aload_n (i := 0) 101 dX11_best_100 rfl rfl rfl ?_
              refine e_getr (j := 0) 104 fl_11_10 dX11_best_101 at_0 rfl rfl tp_0_0 rfl ?_
              refine e_iload_n (i := 2) 105 dX11_best_104 rfl rfl rfl ?_
              refine e_iload_n (i := 3) 106 dX11_best_105 rfl rfl rfl ?_
              refine e_callV 109 mt_yX4_placing mv_yX4_placing wd_989 (by decide) dX11_best_106 at_903 jc_4 rfl rfl rfl (Nat.le_of_ble_eq_true rfl) (jroom (by decide)) rfl (c_placing hC hSZ (n := n.toNat) (by omega) (by omega) hi hit0 (fun V106 v106 hS106 hV106 => ?_))
              dsimp only [jpush]
              refine e_iret dX11_best_109 ?_
              first
                | (exfalso; omega)
                | (refine h0 ⟨by omega, by omega⟩ (by omega) (by omega) (fun j a b => (hwt j a (by omega)).2) V106 v106 hS106 ?_
                   have q := hV106
                   unfold LBM at q
                   unfold LBS
                   rw [show sumS (Z87 904) n.toNat = sumS (fun j => sizeOfP (M 929) ((looseL (M 929) n.toNat (M 929 709).toNat).getD j.toNat 0)) n.toNat from funext (sumS_fc n.toNat hsz), show sumS (Z87 905) n.toNat = sumS (fun j => M 948 (40 * row + j)) n.toNat from funext (sumS_fc n.toNat (fun j a b => (hwt j a b).1))] at q
                   exact q)
          · skip
            refine e_bipush 75 dX11_best_73 (by decide) rfl ?_
            refine e_iret dX11_best_75 ?_
            first
              | (exfalso; omega)
              | (exact h7 ⟨by omega, by omega⟩ (by omega) (by omega) Y34 hY)
        · skip
          refine e_bipush 59 dX11_best_57 (by decide) rfl ?_
          refine e_iret dX11_best_59 ?_
          first
            | (exfalso; omega)
            | (exact h6 ⟨by omega, by omega⟩ (by omega) Y34 hY)
      · skip
        refine e_bipush 43 dX11_best_41 (by decide) rfl ?_
        refine e_iret dX11_best_43 ?_
        first
          | (exfalso; omega)
          | (exact h5 ⟨by omega, by omega⟩ Y34 hY)
    · dsimp only [jpush]
      refine e_if_ne 22 25 dX11_best_19 (by decide) (by decide) rfl (fun h => absurd h (by decide)) (fun _ => ?_)
      refine e_bipush 24 dX11_best_22 (by decide) rfl ?_
      refine e_iret dX11_best_24 ?_
      first
        | (exfalso; omega)
        | (exact h3 (by omega))
  · dsimp only [jpush]
    refine e_if_ne 9 12 dX11_best_6 (by decide) (by decide) rfl (fun h => absurd h (by decide)) (fun _ => ?_)
    refine e_bipush 11 dX11_best_9 (by decide) rfl ?_
    refine e_iret dX11_best_11 ?_
    first
      | (exfalso; omega)
      | (exact h2 (by omega))

