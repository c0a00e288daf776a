/-! PAIRS: hand, runs -/
theorem rFar_rng {M : jM} (hC : CR M) {k a b c d e : Int} (hk : 0 ≤ k ∧ k < 4) (ha : 0 ≤ a ∧ a ≤ 9) (hb : 0 ≤ b ∧ b ≤ 9) (hc : 0 ≤ c ∧ c ≤ 9) (hd : 0 ≤ d ∧ d ≤ 9) (he : 0 ≤ e ∧ e ≤ 9) : 0 ≤ rFar (M 929) k a b c d e ∧ rFar (M 929) k a b c d e ≤ 45 := by
  have g0 := hC.hd (k := k) (j := 0) hk.1 hk.2 (by omega) (by omega)
  have g1 := hC.hd (k := k) (j := 1) hk.1 hk.2 (by omega) (by omega)
  have g2 := hC.hd (k := k) (j := 2) hk.1 hk.2 (by omega) (by omega)
  have g3 := hC.hd (k := k) (j := 3) hk.1 hk.2 (by omega) (by omega)
  have g4 := hC.hd (k := k) (j := 4) hk.1 hk.2 (by omega) (by omega)
  rw [Int.add_zero] at g0
  have f0 : 0 ≤ dist a (M 929 (3588 + 5 * k)) ∧ dist a (M 929 (3588 + 5 * k)) ≤ 9 := dist_rng ha g0.2
  have f1 : 0 ≤ dist b (M 929 (3588 + 5 * k + 1)) ∧ dist b (M 929 (3588 + 5 * k + 1)) ≤ 9 := dist_rng hb g1.2
  have f2 : 0 ≤ dist c (M 929 (3588 + 5 * k + 2)) ∧ dist c (M 929 (3588 + 5 * k + 2)) ≤ 9 := dist_rng hc g2.2
  have f3 : 0 ≤ dist d (M 929 (3588 + 5 * k + 3)) ∧ dist d (M 929 (3588 + 5 * k + 3)) ≤ 9 := dist_rng hd g3.2
  have f4 : 0 ≤ dist e (M 929 (3588 + 5 * k + 4)) ∧ dist e (M 929 (3588 + 5 * k + 4)) ≤ 9 := dist_rng he g4.2
  unfold rFar
  omega
def rNear (h : Int → Int) (a b c d e : Int) : Nat → Int
  | 0 => 1000
  | n + 1 => if rFar h n a b c d e < rNear h a b c d e n then rFar h n a b c d e else rNear h a b c d e n
def rHand (h : Int → Int) (k a b c d e : Int) : Int :=
  if 100 ≤ k ∧ k % 100 = (31 * (k / 100) + 17) % 97 ∧ k / 100 ≤ h 1310 then
    (if (0 ≤ a ∧ a ≤ 9) ∧ (0 ≤ b ∧ b ≤ 9) ∧ (0 ≤ c ∧ c ≤ 9) ∧ (0 ≤ d ∧ d ≤ 9) ∧ (0 ≤ e ∧ e ≤ 9) then
      (if 6 < rNear h a b c d e 4 then 2 else if rFar h (h (3609 + (k / 100 - 1))) a b c d e = rNear h a b c d e 4 then 0 else 1) else -3) else -2
theorem rNear_rng {M : jM} (hC : CR M) {a b c d e : Int} (ha : 0 ≤ a ∧ a ≤ 9) (hb : 0 ≤ b ∧ b ≤ 9) (hc : 0 ≤ c ∧ c ≤ 9) (hd : 0 ≤ d ∧ d ≤ 9) (he : 0 ≤ e ∧ e ≤ 9) : ∀ n : Nat, n ≤ 4 → 0 ≤ rNear (M 929) a b c d e n ∧ rNear (M 929) a b c d e n ≤ 1000
  | 0, _ => by
    unfold rNear
    omega
  | n + 1, hn => by
    have ih := rNear_rng hC ha hb hc hd he n (by omega)
    have f := rFar_rng hC (k := n) (by omega) ha hb hc hd he
    unfold rNear
    split <;> omega
theorem l_hand {X : jX} {k s a b c d e : Int} {M : jM} {Q : Int → jM → Prop} (hC : CR M) (hs : 0 ≤ s ∧ s < M 929 1310) (ha : 0 ≤ a ∧ a ≤ 9) (hb : 0 ≤ b ∧ b ≤ 9) (hc : 0 ≤ c ∧ c ≤ 9) (hd : 0 ≤ d ∧ d ≤ 9) (he : 0 ≤ e ∧ e ≤ 9) (h : Q (if 6 < rNear (M 929) a b c d e 4 then 2 else if rFar (M 929) (M 929 (3609 + s)) a b c d e = rNear (M 929) a b c d e 4 then 0 else 1) M) : ∀ (n i : Nat), i + n = 4 → 1 ≤ i → ∀ ii w : Int, ii = i → w = rNear (M 929) a b c d e i → jE X yX11_hand cX11_hand 10 (some .int) 4 Q M 54 [(0, jR 0), (1, jI k), (2, jI a), (3, jI b), (4, jI c), (5, jI d), (6, jI e), (7, jI s), (8, jI w), (9, jI ii)] [] := by
  intro n
  have hn := hC.cnt
  have hg := hC.rng
  have ht := hC.tk hs.1 hs.2
  have fw := rFar_rng hC (k := M 929 (3609 + s)) (by omega) ha hb hc hd he
  induction n with
  | zero =>
    intro i hi h1 ii w hii hw
    have e4 : i = 4 := by omega
    subst e4
    rw [hii]
    have w4 : 0 ≤ w ∧ w ≤ 1000 := by
      rw [hw]
      exact rNear_rng hC ha hb hc hd he 4 (by omega)
    rw [← hw] at h
    refine e_iload 56 dX11_hand_54 rfl rfl ?_
    refine e_iconst 57 dX11_hand_56 rfl ?_
    refine e_icmp_ge 60 87 dX11_hand_57 (by omega) (by decide) (by decide) rfl (fun b57 => ?_) (fun b57 => ?_)
    · skip
      refine e_iload 89 dX11_hand_87 rfl rfl ?_
      refine e_bipush 91 dX11_hand_89 (by decide) rfl ?_
      refine e_icmp_le 94 96 dX11_hand_91 (by omega) (by decide) (by decide) rfl (fun b91 => ?_) (fun b91 => ?_)
      · skip
        refine e_aload_n (i := 0) 97 dX11_hand_96 rfl rfl rfl ?_
        refine e_aload_n (i := 0) 98 dX11_hand_97 rfl rfl rfl ?_
        refine e_getr (j := 0) 101 fl_11_10 dX11_hand_98 at_0 rfl rfl tp_0_0 rfl ?_
        refine e_getr (j := 11) 104 fl_11_188 dX11_hand_101 at_1 rfl rfl tp_1_11 rfl ?_
        refine e_iload 106 dX11_hand_104 rfl rfl ?_
        refine e_aald 107 dX11_hand_106 ar_19 (by decide) (by omega) (by omega) (tp_ticket (by omega) (by omega)) rfl ?_
        refine e_geti (j := 2) 110 fl_11_404 dX11_hand_107 (at_ticket (by omega) (by omega)) (by decide) rfl rfl (fun r107 => ?_)
        rw [ht.1.2.2.1]
        refine e_iload_n (i := 2) 111 dX11_hand_110 rfl rfl rfl ?_
        refine e_iload_n (i := 3) 112 dX11_hand_111 rfl rfl rfl ?_
        refine e_iload 114 dX11_hand_112 rfl rfl ?_
        refine e_iload 116 dX11_hand_114 rfl rfl ?_
        refine e_iload 118 dX11_hand_116 rfl rfl ?_
        refine e_callV 121 mt_yX11_farFrom mv_yX11_farFrom wd_1125 (by decide) dX11_hand_118 at_0 jc_11 rfl rfl rfl (Nat.le_of_ble_eq_true rfl) (jroom (by decide)) rfl (c_farFrom hC (by omega) (by omega) (by omega) (by omega) (by omega) (by omega) ?_)
        dsimp only [jpush]
        refine e_iload 123 dX11_hand_121 rfl rfl ?_
        refine e_icmp_ne 126 130 dX11_hand_123 (by omega) (by omega) (by decide) rfl (fun b123 => ?_) (fun b123 => ?_)
        · skip
          refine e_iconst 131 dX11_hand_130 rfl ?_
          refine e_iret dX11_hand_131 ?_
          first
            | (rw [if_neg (by omega)] at h; exact h)
            | (rw [if_pos (by omega), if_neg (by omega)] at h; exact h)
            | (rw [if_pos (by omega)] at h; exact h)
            | (rw [if_neg (by omega), if_pos (by omega)] at h; exact h)
            | (rw [if_neg (by omega), if_neg (by omega)] at h; exact h)
            | (exfalso; omega)
        · skip
          refine e_iconst 127 dX11_hand_126 rfl ?_
          refine e_goto 131 dX11_hand_127 (by decide) ?_
          refine e_iret dX11_hand_131 ?_
          first
            | (rw [if_neg (by omega)] at h; exact h)
            | (rw [if_pos (by omega), if_neg (by omega)] at h; exact h)
            | (rw [if_pos (by omega)] at h; exact h)
            | (rw [if_neg (by omega), if_pos (by omega)] at h; exact h)
            | (rw [if_neg (by omega), if_neg (by omega)] at h; exact h)
            | (exfalso; omega)
      · skip
        refine e_iconst 95 dX11_hand_94 rfl ?_
        refine e_iret dX11_hand_95 ?_
        first
          | (rw [if_neg (by omega)] at h; exact h)
          | (rw [if_pos (by omega), if_neg (by omega)] at h; exact h)
          | (rw [if_pos (by omega)] at h; exact h)
          | (rw [if_neg (by omega), if_pos (by omega)] at h; exact h)
          | (rw [if_neg (by omega), if_neg (by omega)] at h; exact h)
          | (exfalso; omega)
    · omega
  | succ n ih =>
    intro i hi h1 ii w hii hw
    have hr := rFar_rng hC (k := ii) (by omega) ha hb hc hd he
    have hw0 : 0 ≤ w ∧ w ≤ 1000 := by
      rw [hw]
      exact rNear_rng hC ha hb hc hd he i (by omega)
    refine e_iload 56 dX11_hand_54 rfl rfl ?_
    refine e_iconst 57 dX11_hand_56 rfl ?_
    refine e_icmp_ge 60 87 dX11_hand_57 (by omega) (by decide) (by decide) rfl (fun b57 => ?_) (fun b57 => ?_)
    · omega
    · skip
      refine e_iload 62 dX11_hand_60 rfl rfl ?_
      refine e_aload_n (i := 0) 63 dX11_hand_62 rfl rfl rfl ?_
      refine e_iload 65 dX11_hand_63 rfl rfl ?_
      refine e_iload_n (i := 2) 66 dX11_hand_65 rfl rfl rfl ?_
      refine e_iload_n (i := 3) 67 dX11_hand_66 rfl rfl rfl ?_
      refine e_iload 69 dX11_hand_67 rfl rfl ?_
      refine e_iload 71 dX11_hand_69 rfl rfl ?_
      refine e_iload 73 dX11_hand_71 rfl rfl ?_
      refine e_callV 76 mt_yX11_farFrom mv_yX11_farFrom wd_1125 (by decide) dX11_hand_73 at_0 jc_11 rfl rfl rfl (Nat.le_of_ble_eq_true rfl) (jroom (by decide)) rfl (c_farFrom hC (by omega) (by omega) (by omega) (by omega) (by omega) (by omega) ?_)
      dsimp only [jpush]
      refine e_minI 79 wd_894 dX11_hand_76 (by omega) (by omega) (Nat.le_of_ble_eq_true rfl) (jroom (by decide)) rfl ?_
      refine e_istore (lsn := [(8, _), (0, _), (1, _), (2, _), (3, _), (4, _), (5, _), (6, _), (7, _), (9, _)]) 81 dX11_hand_79 (by decide) rfl rfl ?_
      refine e_iinc (lsn := [(9, _), (8, _), (0, _), (1, _), (2, _), (3, _), (4, _), (5, _), (6, _), (7, _)]) 84 dX11_hand_81 rfl (by decide) rfl rfl ?_
      refine e_goto 54 dX11_hand_84 (by decide) ?_
      refine e_ls (ls2 := [(0, _), (1, _), (2, _), (3, _), (4, _), (5, _), (6, _), (7, _), (8, _), (9, _)]) rfl ?_
      refine ih (i + 1) (by omega) (by omega) _ _ (by omega) ?_
      rw [rNear, ← hw, ← hii]
      split <;> omega

theorem c_hand {k : Int} {a b c d e : Int} {M : jM} {Q : Int → jM → Prop} (hk : -2147483648 ≤ k ∧ k ≤ 2147483647) (ha : -2147483648 ≤ a ∧ a ≤ 2147483647) (hb : -2147483648 ≤ b ∧ b ≤ 2147483647) (hc : -2147483648 ≤ c ∧ c ≤ 2147483647) (hd : -2147483648 ≤ d ∧ d ≤ 2147483647) (he : -2147483648 ≤ e ∧ e ≤ 2147483647) (hC : CR M) (h : Q (rHand (M 929) k a b c d e) M) : jCt yX11_hand cX11_hand 10 (some .int) 4 [jR 0, jI k, jI a, jI b, jI c, jI d, jI e] M Q := by
  refine jCt_of mt_yX11_hand (Nat.le_of_ble_eq_true rfl) (fun X => ?_)
  have hn := hC.cnt
  have hg := hC.rng
  unfold rHand at h
  refine e_aload_n (i := 0) 1 dX11_hand_0 rfl rfl rfl ?_
  refine e_getr (j := 0) 4 fl_11_10 dX11_hand_1 at_0 rfl rfl tp_0_0 rfl ?_
  refine e_iload_n (i := 1) 5 dX11_hand_4 rfl rfl rfl ?_
  refine e_callV 8 mt_yX8_serial mv_yX8_serial wd_1121 (by decide) dX11_hand_5 at_1 jc_8 rfl rfl rfl (Nat.le_of_ble_eq_true rfl) (jroom (by decide)) rfl (c_serial (by omega) hC (fun w5 => ?_) (fun w5 => ?_))
  · dsimp only [jpush]
    simp only [tkBad, tkGood] at w5
    refine e_istore (lsn := [(7, _), (0, _), (1, _), (2, _), (3, _), (4, _), (5, _), (6, _)]) 10 dX11_hand_8 (by decide) rfl rfl ?_
    refine e_iload 12 dX11_hand_10 rfl rfl ?_
    refine e_iconst 13 dX11_hand_12 rfl ?_
    refine e_icmp_ne 16 19 dX11_hand_13 (by omega) (by decide) (by decide) rfl (fun b13 => ?_) (fun b13 => ?_)
    · skip
      refine e_iload_n (i := 2) 20 dX11_hand_19 rfl rfl rfl ?_
      refine e_iload_n (i := 3) 21 dX11_hand_20 rfl rfl rfl ?_
      refine e_iload 23 dX11_hand_21 rfl rfl ?_
      refine e_iload 25 dX11_hand_23 rfl rfl ?_
      refine e_iload 27 dX11_hand_25 rfl rfl ?_
      refine e_callS 30 mt_yX11_areStrokes ms_yX11_areStrokes wd_1110 (by decide) dX11_hand_27 rfl rfl (Nat.le_of_ble_eq_true rfl) (jroom (by decide)) rfl (c_areStrokes (by omega) (by omega) (by omega) (by omega) (by omega) (fun w27 => ?_) (fun w27 => ?_))
      · dsimp only [jpush]
        refine e_if_ne 33 36 dX11_hand_30 (by decide) (by decide) rfl (fun _ => ?_) (fun h => absurd h (by decide))
        refine e_aload_n (i := 0) 37 dX11_hand_36 rfl rfl rfl ?_
        refine e_iconst 38 dX11_hand_37 rfl ?_
        refine e_iload_n (i := 2) 39 dX11_hand_38 rfl rfl rfl ?_
        refine e_iload_n (i := 3) 40 dX11_hand_39 rfl rfl rfl ?_
        refine e_iload 42 dX11_hand_40 rfl rfl ?_
        refine e_iload 44 dX11_hand_42 rfl rfl ?_
        refine e_iload 46 dX11_hand_44 rfl rfl ?_
        refine e_callV 49 mt_yX11_farFrom mv_yX11_farFrom wd_1125 (by decide) dX11_hand_46 at_0 jc_11 rfl rfl rfl (Nat.le_of_ble_eq_true rfl) (jroom (by decide)) rfl (c_farFrom hC (by omega) (by omega) (by omega) (by omega) (by omega) (by omega) ?_)
        dsimp only [jpush]
        refine e_istore (lsn := [(8, _), (7, _), (0, _), (1, _), (2, _), (3, _), (4, _), (5, _), (6, _)]) 51 dX11_hand_49 (by decide) rfl rfl ?_
        refine e_iconst 52 dX11_hand_51 rfl ?_
        refine e_istore (lsn := [(9, _), (8, _), (7, _), (0, _), (1, _), (2, _), (3, _), (4, _), (5, _), (6, _)]) 54 dX11_hand_52 (by decide) rfl rfl ?_
        refine e_ls (ls2 := [(0, _), (1, _), (2, _), (3, _), (4, _), (5, _), (6, _), (7, _), (8, _), (9, _)]) rfl ?_
        rw [if_pos (by omega), if_pos (by omega)] at h
        exact l_hand hC (by omega) (by omega) (by omega) (by omega) (by omega) (by omega) h 3 1 rfl (by omega) _ _ rfl (by have f := rFar_rng hC (k := ((0 : Nat) : Int)) (a := a) (b := b) (c := c) (d := d) (e := e) (by omega) (by omega) (by omega) (by omega) (by omega) (by omega); rw [rNear, rNear, if_pos (by omega)]; rfl)
      · dsimp only [jpush]
        refine e_if_ne 33 36 dX11_hand_30 (by decide) (by decide) rfl (fun h => absurd h (by decide)) (fun _ => ?_)
        refine e_bipush 35 dX11_hand_33 (by decide) rfl ?_
        refine e_iret dX11_hand_35 ?_
        first
          | (rw [if_neg (by omega)] at h; exact h)
          | (rw [if_pos (by omega), if_neg (by omega)] at h; exact h)
          | (rw [if_pos (by omega)] at h; exact h)
          | (rw [if_neg (by omega), if_pos (by omega)] at h; exact h)
          | (rw [if_neg (by omega), if_neg (by omega)] at h; exact h)
          | (exfalso; omega)
    · skip
      refine e_bipush 18 dX11_hand_16 (by decide) rfl ?_
      refine e_iret dX11_hand_18 ?_
      first
        | (rw [if_neg (by omega)] at h; exact h)
        | (rw [if_pos (by omega), if_neg (by omega)] at h; exact h)
        | (rw [if_pos (by omega)] at h; exact h)
        | (rw [if_neg (by omega), if_pos (by omega)] at h; exact h)
        | (rw [if_neg (by omega), if_neg (by omega)] at h; exact h)
        | (exfalso; omega)
  · dsimp only [jpush]
    simp only [tkBad, tkGood] at w5
    refine e_istore (lsn := [(7, _), (0, _), (1, _), (2, _), (3, _), (4, _), (5, _), (6, _)]) 10 dX11_hand_8 (by decide) rfl rfl ?_
    refine e_iload 12 dX11_hand_10 rfl rfl ?_
    refine e_iconst 13 dX11_hand_12 rfl ?_
    refine e_icmp_ne 16 19 dX11_hand_13 (by decide) (by decide) (by decide) rfl (fun h => absurd h (by decide)) (fun _ => ?_)
    refine e_bipush 18 dX11_hand_16 (by decide) rfl ?_
    refine e_iret dX11_hand_18 ?_
    first
      | (rw [if_neg (by omega)] at h; exact h)
      | (rw [if_pos (by omega), if_neg (by omega)] at h; exact h)
      | (rw [if_pos (by omega)] at h; exact h)
      | (rw [if_neg (by omega), if_pos (by omega)] at h; exact h)
      | (rw [if_neg (by omega), if_neg (by omega)] at h; exact h)
      | (exfalso; omega)

theorem lm_hand {X : jX} {k s a b c d e : Int} {M : jM} {Q : Int → jM → Prop} (hC : CR M) (hs : 0 ≤ s ∧ s < M 929 1310) (ha : 0 ≤ a ∧ a ≤ 9) (hb : 0 ≤ b ∧ b ≤ 9) (hc : 0 ≤ c ∧ c ≤ 9) (hd : 0 ≤ d ∧ d ≤ 9) (he : 0 ≤ e ∧ e ≤ 9) (h : Q (if 6 < rNear (M 929) a b c d e 4 then 2 else if rFar (M 929) (M 929 (3609 + s)) a b c d e = rNear (M 929) a b c d e 4 then 0 else 1) M) : ∀ (n i : Nat), i + n = 4 → ∀ ii o w wr : Int, ii = i → wr = M 929 (3609 + s) → w = rNear (M 929) a b c d e i → o = (if wr < i then rFar (M 929) wr a b c d e else 0) → jE X yX12_hand cX12_hand 13 (some .int) 3 Q M 62 [(0, jR 928), (1, jI k), (2, jI a), (3, jI b), (4, jI c), (5, jI d), (6, jI e), (7, jI wr), (8, jI o), (9, jI w), (10, jI ii)] [] := by
  intro n
  have hn := hC.cnt
  have hg := hC.rng
  have ht := hC.tk hs.1 hs.2
  have fw := rFar_rng hC (k := M 929 (3609 + s)) (by omega) ha hb hc hd he
  have w4 := rNear_rng hC ha hb hc hd he 4 (by omega)
  induction n with
  | zero =>
    intro i hi ii o w wr hii hwr hw ho
    have e4 : i = 4 := by omega
    subst e4
    rw [← hwr] at h fw
    rw [if_pos (by omega)] at ho
    rw [← ho] at h fw
    rw [← hw] at h w4
    refine e_iload 64 dX12_hand_62 rfl rfl ?_
    refine e_iconst 65 dX12_hand_64 rfl ?_
    refine e_icmp_ge 68 188 dX12_hand_65 (by omega) (by decide) (by decide) rfl (fun b65 => ?_) (fun b65 => ?_)
    · skip
      refine e_iload 190 dX12_hand_188 rfl rfl ?_
      refine e_iload 192 dX12_hand_190 rfl rfl ?_
      refine e_icmp_ne 195 206 dX12_hand_192 (by omega) (by omega) (by decide) rfl (fun b192 => ?_) (fun b192 => ?_)
      · skip
        refine e_iload 208 dX12_hand_206 rfl rfl ?_
        refine e_bipush 210 dX12_hand_208 (by decide) rfl ?_
        refine e_icmp_gt 213 217 dX12_hand_210 (by omega) (by decide) (by decide) rfl (fun b210 => ?_) (fun b210 => ?_)
        · skip
          refine e_iconst 218 dX12_hand_217 rfl ?_
          refine e_iret dX12_hand_218 ?_
          first
            | (rw [if_neg (by omega)] at h; exact h)
            | (rw [if_pos (by omega), if_neg (by omega)] at h; exact h)
            | (rw [if_pos (by omega)] at h; exact h)
            | (rw [if_neg (by omega), if_pos (by omega)] at h; exact h)
            | (rw [if_neg (by omega), if_neg (by omega)] at h; exact h)
            | (exfalso; omega)
        · skip
          refine e_iconst 214 dX12_hand_213 rfl ?_
          refine e_goto 218 dX12_hand_214 (by decide) ?_
          refine e_iret dX12_hand_218 ?_
          first
            | (rw [if_neg (by omega)] at h; exact h)
            | (rw [if_pos (by omega), if_neg (by omega)] at h; exact h)
            | (rw [if_pos (by omega)] at h; exact h)
            | (rw [if_neg (by omega), if_pos (by omega)] at h; exact h)
            | (rw [if_neg (by omega), if_neg (by omega)] at h; exact h)
            | (exfalso; omega)
      · skip
        refine e_iload 197 dX12_hand_195 rfl rfl ?_
        refine e_bipush 199 dX12_hand_197 (by decide) rfl ?_
        refine e_icmp_gt 202 206 dX12_hand_199 (by omega) (by decide) (by decide) rfl (fun b199 => ?_) (fun b199 => ?_)
        · skip
          refine e_iload 208 dX12_hand_206 rfl rfl ?_
          refine e_bipush 210 dX12_hand_208 (by decide) rfl ?_
          refine e_icmp_gt 213 217 dX12_hand_210 (by omega) (by decide) (by decide) rfl (fun b210 => ?_) (fun b210 => ?_)
          · skip
            refine e_iconst 218 dX12_hand_217 rfl ?_
            refine e_iret dX12_hand_218 ?_
            first
              | (rw [if_neg (by omega)] at h; exact h)
              | (rw [if_pos (by omega), if_neg (by omega)] at h; exact h)
              | (rw [if_pos (by omega)] at h; exact h)
              | (rw [if_neg (by omega), if_pos (by omega)] at h; exact h)
              | (rw [if_neg (by omega), if_neg (by omega)] at h; exact h)
              | (exfalso; omega)
          · skip
            refine e_iconst 214 dX12_hand_213 rfl ?_
            refine e_goto 218 dX12_hand_214 (by decide) ?_
            refine e_iret dX12_hand_218 ?_
            first
              | (rw [if_neg (by omega)] at h; exact h)
              | (rw [if_pos (by omega), if_neg (by omega)] at h; exact h)
              | (rw [if_pos (by omega)] at h; exact h)
              | (rw [if_neg (by omega), if_pos (by omega)] at h; exact h)
              | (rw [if_neg (by omega), if_neg (by omega)] at h; exact h)
              | (exfalso; omega)
        · skip
          refine e_iconst 203 dX12_hand_202 rfl ?_
          refine e_goto 218 dX12_hand_203 (by decide) ?_
          refine e_iret dX12_hand_218 ?_
          first
            | (rw [if_neg (by omega)] at h; exact h)
            | (rw [if_pos (by omega), if_neg (by omega)] at h; exact h)
            | (rw [if_pos (by omega)] at h; exact h)
            | (rw [if_neg (by omega), if_pos (by omega)] at h; exact h)
            | (rw [if_neg (by omega), if_neg (by omega)] at h; exact h)
            | (exfalso; omega)
    · omega
  | succ n ih =>
    intro i hi ii o w wr hii hwr hw ho
    have hr := rFar_rng hC (k := ii) (by omega) ha hb hc hd he
    have hw0 : 0 ≤ w ∧ w ≤ 1000 := by
      rw [hw]
      exact rNear_rng hC ha hb hc hd he i (by omega)
    have g0 := hC.hd (k := ii) (j := 0) (by omega) (by omega) (by omega) (by omega)
    have g1 := hC.hd (k := ii) (j := 1) (by omega) (by omega) (by omega) (by omega)
    have g2 := hC.hd (k := ii) (j := 2) (by omega) (by omega) (by omega) (by omega)
    have g3 := hC.hd (k := ii) (j := 3) (by omega) (by omega) (by omega) (by omega)
    have g4 := hC.hd (k := ii) (j := 4) (by omega) (by omega) (by omega) (by omega)
    rw [Int.add_zero] at g0
    have f0 : 0 ≤ dist a (M 929 (3588 + 5 * ii)) ∧ dist a (M 929 (3588 + 5 * ii)) ≤ 9 := dist_rng ha g0.2
    have f1 : 0 ≤ dist b (M 929 (3588 + 5 * ii + 1)) ∧ dist b (M 929 (3588 + 5 * ii + 1)) ≤ 9 := dist_rng hb g1.2
    have f2 : 0 ≤ dist c (M 929 (3588 + 5 * ii + 2)) ∧ dist c (M 929 (3588 + 5 * ii + 2)) ≤ 9 := dist_rng hc g2.2
    have f3 : 0 ≤ dist d (M 929 (3588 + 5 * ii + 3)) ∧ dist d (M 929 (3588 + 5 * ii + 3)) ≤ 9 := dist_rng hd g3.2
    have f4 : 0 ≤ dist e (M 929 (3588 + 5 * ii + 4)) ∧ dist e (M 929 (3588 + 5 * ii + 4)) ≤ 9 := dist_rng he g4.2
    have fe : dist a (M 929 (3588 + 5 * ii)) + dist b (M 929 (3588 + 5 * ii + 1)) + dist c (M 929 (3588 + 5 * ii + 2)) + dist d (M 929 (3588 + 5 * ii + 3)) + dist e (M 929 (3588 + 5 * ii + 4)) = rFar (M 929) ii a b c d e := rfl
    refine e_iload 64 dX12_hand_62 rfl rfl ?_
    refine e_iconst 65 dX12_hand_64 rfl ?_
    refine e_icmp_ge 68 188 dX12_hand_65 (by omega) (by decide) (by decide) rfl (fun b65 => ?_) (fun b65 => ?_)
    · omega
    · skip
      refine e_sipush 71 dX12_hand_68 (by decide) rfl ?_
      refine e_iconst 72 dX12_hand_71 rfl ?_
      refine e_iload 74 dX12_hand_72 rfl rfl ?_
      refine e_imul 75 dX12_hand_74 rfl ?_
      refine e_iadd 76 dX12_hand_75 rfl ?_
      refine e_istore (lsn := [(11, _), (0, _), (1, _), (2, _), (3, _), (4, _), (5, _), (6, _), (7, _), (8, _), (9, _), (10, _)]) 78 dX12_hand_76 (by decide) rfl rfl ?_
      refine e_iload_n (i := 2) 79 dX12_hand_78 rfl rfl rfl ?_
      refine e_aload_n (i := 0) 80 dX12_hand_79 rfl rfl rfl ?_
      refine e_getr (j := 1) 83 fl_12_13 dX12_hand_80 at_928 rfl rfl tp_928_1 rfl ?_
      refine e_iload 85 dX12_hand_83 rfl rfl ?_
      refine e_iald 86 dX12_hand_85 ar_929 (by omega) (by omega) rfl (fun r85 => ?_)
      refine e_callS 89 mt_yX12_apart ms_yX12_apart wd_1744 (by decide) dX12_hand_86 rfl rfl (Nat.le_of_ble_eq_true rfl) (jroom (by decide)) rfl (m_apart (by omega) (by omega) (by omega) ?_)
      dsimp only [jpush]
      refine e_iload_n (i := 3) 90 dX12_hand_89 rfl rfl rfl ?_
      refine e_aload_n (i := 0) 91 dX12_hand_90 rfl rfl rfl ?_
      refine e_getr (j := 1) 94 fl_12_13 dX12_hand_91 at_928 rfl rfl tp_928_1 rfl ?_
      refine e_iload 96 dX12_hand_94 rfl rfl ?_
      refine e_iconst 97 dX12_hand_96 rfl ?_
      refine e_iadd 98 dX12_hand_97 rfl ?_
      refine e_iald 99 dX12_hand_98 ar_929 (by omega) (by omega) rfl (fun r98 => ?_)
      refine e_callS 102 mt_yX12_apart ms_yX12_apart wd_1744 (by decide) dX12_hand_99 rfl rfl (Nat.le_of_ble_eq_true rfl) (jroom (by decide)) rfl (m_apart (by omega) (by omega) (by omega) ?_)
      dsimp only [jpush]
      refine e_iadd 103 dX12_hand_102 rfl ?_
      refine e_iload 105 dX12_hand_103 rfl rfl ?_
      refine e_aload_n (i := 0) 106 dX12_hand_105 rfl rfl rfl ?_
      refine e_getr (j := 1) 109 fl_12_13 dX12_hand_106 at_928 rfl rfl tp_928_1 rfl ?_
      refine e_iload 111 dX12_hand_109 rfl rfl ?_
      refine e_iconst 112 dX12_hand_111 rfl ?_
      refine e_iadd 113 dX12_hand_112 rfl ?_
      refine e_iald 114 dX12_hand_113 ar_929 (by omega) (by omega) rfl (fun r113 => ?_)
      refine e_callS 117 mt_yX12_apart ms_yX12_apart wd_1744 (by decide) dX12_hand_114 rfl rfl (Nat.le_of_ble_eq_true rfl) (jroom (by decide)) rfl (m_apart (by omega) (by omega) (by omega) ?_)
      dsimp only [jpush]
      refine e_iadd 118 dX12_hand_117 rfl ?_
      refine e_iload 120 dX12_hand_118 rfl rfl ?_
      refine e_aload_n (i := 0) 121 dX12_hand_120 rfl rfl rfl ?_
      refine e_getr (j := 1) 124 fl_12_13 dX12_hand_121 at_928 rfl rfl tp_928_1 rfl ?_
      refine e_iload 126 dX12_hand_124 rfl rfl ?_
      refine e_iconst 127 dX12_hand_126 rfl ?_
      refine e_iadd 128 dX12_hand_127 rfl ?_
      refine e_iald 129 dX12_hand_128 ar_929 (by omega) (by omega) rfl (fun r128 => ?_)
      refine e_callS 132 mt_yX12_apart ms_yX12_apart wd_1744 (by decide) dX12_hand_129 rfl rfl (Nat.le_of_ble_eq_true rfl) (jroom (by decide)) rfl (m_apart (by omega) (by omega) (by omega) ?_)
      dsimp only [jpush]
      refine e_iadd 133 dX12_hand_132 rfl ?_
      refine e_iload 135 dX12_hand_133 rfl rfl ?_
      refine e_aload_n (i := 0) 136 dX12_hand_135 rfl rfl rfl ?_
      refine e_getr (j := 1) 139 fl_12_13 dX12_hand_136 at_928 rfl rfl tp_928_1 rfl ?_
      refine e_iload 141 dX12_hand_139 rfl rfl ?_
      refine e_iconst 142 dX12_hand_141 rfl ?_
      refine e_iadd 143 dX12_hand_142 rfl ?_
      refine e_iald 144 dX12_hand_143 ar_929 (by omega) (by omega) rfl (fun r143 => ?_)
      refine e_callS 147 mt_yX12_apart ms_yX12_apart wd_1744 (by decide) dX12_hand_144 rfl rfl (Nat.le_of_ble_eq_true rfl) (jroom (by decide)) rfl (m_apart (by omega) (by omega) (by omega) ?_)
      dsimp only [jpush]
      refine e_iadd 148 dX12_hand_147 rfl ?_
      rw [fe]
      refine e_istore (lsn := [(12, _), (11, _), (0, _), (1, _), (2, _), (3, _), (4, _), (5, _), (6, _), (7, _), (8, _), (9, _), (10, _)]) 150 dX12_hand_148 (by decide) rfl rfl ?_
      refine e_iload 152 dX12_hand_150 rfl rfl ?_
      refine e_iload 154 dX12_hand_152 rfl rfl ?_
      refine e_icmp_ne 157 162 dX12_hand_154 (by omega) (by omega) (by decide) rfl (fun b154 => ?_) (fun b154 => ?_)
      · skip
        refine e_iload 164 dX12_hand_162 rfl rfl ?_
        refine e_istore (lsn := [(8, _), (12, _), (11, _), (0, _), (1, _), (2, _), (3, _), (4, _), (5, _), (6, _), (7, _), (9, _), (10, _)]) 166 dX12_hand_164 (by decide) rfl rfl ?_
        refine e_iload 168 dX12_hand_166 rfl rfl ?_
        refine e_iload 170 dX12_hand_168 rfl rfl ?_
        refine e_icmp_ge 173 178 dX12_hand_170 (by omega) (by omega) (by decide) rfl (fun b170 => ?_) (fun b170 => ?_)
        · skip
          refine e_iload 180 dX12_hand_178 rfl rfl ?_
          refine e_istore (lsn := [(9, _), (8, _), (12, _), (11, _), (0, _), (1, _), (2, _), (3, _), (4, _), (5, _), (6, _), (7, _), (10, _)]) 182 dX12_hand_180 (by decide) rfl rfl ?_
          refine e_iinc (lsn := [(10, _), (9, _), (8, _), (12, _), (11, _), (0, _), (1, _), (2, _), (3, _), (4, _), (5, _), (6, _), (7, _)]) 185 dX12_hand_182 rfl (by decide) rfl rfl ?_
          refine e_goto 62 dX12_hand_185 (by decide) ?_
          refine e_ls (ls2 := [(0, _), (1, _), (2, _), (3, _), (4, _), (5, _), (6, _), (7, _), (8, _), (9, _), (10, _)]) rfl ?_
          refine ih (i + 1) (by omega) _ _ _ _ (by omega) hwr ?_ ?_
          · rw [rNear, ← hw, ← hii]
            split <;> omega
          · rw [ho]
            by_cases q : wr < (i : Int)
            · rw [if_pos q, if_pos (by omega)]
            · rw [if_neg q, if_neg (by omega)]
        · skip
          refine e_iload 175 dX12_hand_173 rfl rfl ?_
          refine e_goto 180 dX12_hand_175 (by decide) ?_
          refine e_istore (lsn := [(9, _), (8, _), (12, _), (11, _), (0, _), (1, _), (2, _), (3, _), (4, _), (5, _), (6, _), (7, _), (10, _)]) 182 dX12_hand_180 (by decide) rfl rfl ?_
          refine e_iinc (lsn := [(10, _), (9, _), (8, _), (12, _), (11, _), (0, _), (1, _), (2, _), (3, _), (4, _), (5, _), (6, _), (7, _)]) 185 dX12_hand_182 rfl (by decide) rfl rfl ?_
          refine e_goto 62 dX12_hand_185 (by decide) ?_
          refine e_ls (ls2 := [(0, _), (1, _), (2, _), (3, _), (4, _), (5, _), (6, _), (7, _), (8, _), (9, _), (10, _)]) rfl ?_
          refine ih (i + 1) (by omega) _ _ _ _ (by omega) hwr ?_ ?_
          · rw [rNear, ← hw, ← hii]
            split <;> omega
          · rw [ho]
            by_cases q : wr < (i : Int)
            · rw [if_pos q, if_pos (by omega)]
            · rw [if_neg q, if_neg (by omega)]
      · skip
        refine e_iload 159 dX12_hand_157 rfl rfl ?_
        refine e_goto 164 dX12_hand_159 (by decide) ?_
        refine e_istore (lsn := [(8, _), (12, _), (11, _), (0, _), (1, _), (2, _), (3, _), (4, _), (5, _), (6, _), (7, _), (9, _), (10, _)]) 166 dX12_hand_164 (by decide) rfl rfl ?_
        refine e_iload 168 dX12_hand_166 rfl rfl ?_
        refine e_iload 170 dX12_hand_168 rfl rfl ?_
        refine e_icmp_ge 173 178 dX12_hand_170 (by omega) (by omega) (by decide) rfl (fun b170 => ?_) (fun b170 => ?_)
        · skip
          refine e_iload 180 dX12_hand_178 rfl rfl ?_
          refine e_istore (lsn := [(9, _), (8, _), (12, _), (11, _), (0, _), (1, _), (2, _), (3, _), (4, _), (5, _), (6, _), (7, _), (10, _)]) 182 dX12_hand_180 (by decide) rfl rfl ?_
          refine e_iinc (lsn := [(10, _), (9, _), (8, _), (12, _), (11, _), (0, _), (1, _), (2, _), (3, _), (4, _), (5, _), (6, _), (7, _)]) 185 dX12_hand_182 rfl (by decide) rfl rfl ?_
          refine e_goto 62 dX12_hand_185 (by decide) ?_
          refine e_ls (ls2 := [(0, _), (1, _), (2, _), (3, _), (4, _), (5, _), (6, _), (7, _), (8, _), (9, _), (10, _)]) rfl ?_
          refine ih (i + 1) (by omega) _ _ _ _ (by omega) hwr ?_ ?_
          · rw [rNear, ← hw, ← hii]
            split <;> omega
          · rw [if_pos (by omega), show wr = ii by omega]
        · skip
          refine e_iload 175 dX12_hand_173 rfl rfl ?_
          refine e_goto 180 dX12_hand_175 (by decide) ?_
          refine e_istore (lsn := [(9, _), (8, _), (12, _), (11, _), (0, _), (1, _), (2, _), (3, _), (4, _), (5, _), (6, _), (7, _), (10, _)]) 182 dX12_hand_180 (by decide) rfl rfl ?_
          refine e_iinc (lsn := [(10, _), (9, _), (8, _), (12, _), (11, _), (0, _), (1, _), (2, _), (3, _), (4, _), (5, _), (6, _), (7, _)]) 185 dX12_hand_182 rfl (by decide) rfl rfl ?_
          refine e_goto 62 dX12_hand_185 (by decide) ?_
          refine e_ls (ls2 := [(0, _), (1, _), (2, _), (3, _), (4, _), (5, _), (6, _), (7, _), (8, _), (9, _), (10, _)]) rfl ?_
          refine ih (i + 1) (by omega) _ _ _ _ (by omega) hwr ?_ ?_
          · rw [rNear, ← hw, ← hii]
            split <;> omega
          · rw [if_pos (by omega), show wr = ii by omega]

theorem m_hand {k : Int} {a b c d e : Int} {M : jM} {Q : Int → jM → Prop} (hk : -2147483648 ≤ k ∧ k ≤ 2147483647) (ha : -2147483648 ≤ a ∧ a ≤ 2147483647) (hb : -2147483648 ≤ b ∧ b ≤ 2147483647) (hc : -2147483648 ≤ c ∧ c ≤ 2147483647) (hd : -2147483648 ≤ d ∧ d ≤ 2147483647) (he : -2147483648 ≤ e ∧ e ≤ 2147483647) (hC : CR M) (ht : M 928 0 = 0) (h : Q (rHand (M 929) k a b c d e) M) : jCt yX12_hand cX12_hand 13 (some .int) 3 [jR 928, jI k, jI a, jI b, jI c, jI d, jI e] M Q := by
  refine jCt_of mt_yX12_hand (Nat.le_of_ble_eq_true rfl) (fun X => ?_)
  have hn := hC.cnt
  have hg := hC.rng
  unfold rHand at h
  refine e_aload_n (i := 0) 1 dX12_hand_0 rfl rfl rfl ?_
  refine e_iconst 2 dX12_hand_1 rfl ?_
  refine e_put0 (j := 0) 5 fl_12_1 dX12_hand_2 at_928 rfl rfl rfl (by decide) ht rfl ?_
  refine e_aload_n (i := 0) 6 dX12_hand_5 rfl rfl rfl ?_
  refine e_iload_n (i := 1) 7 dX12_hand_6 rfl rfl rfl ?_
  refine e_callV 10 mt_yX12_stateOf mv_yX12_stateOf wd_1535 (by decide) dX12_hand_7 at_928 jc_12 rfl rfl rfl (Nat.le_of_ble_eq_true rfl) (jroom (by decide)) rfl (m_stateOf (by omega) hg.2.2.2.1 (fun t a b => (hC.tk a b).2.2.2.1) (fun w7 => ?_) (fun w7 => ?_) (fun w7 => ?_) (fun w7 => ?_))
  · dsimp only [jpush]
    simp only [tkBad, tkGood] at w7
    refine e_iconst 11 dX12_hand_10 rfl ?_
    refine e_icmp_le 14 17 dX12_hand_11 (by decide) (by decide) (by decide) rfl (fun h => absurd h (by decide)) (fun _ => ?_)
    refine e_bipush 16 dX12_hand_14 (by decide) rfl ?_
    refine e_iret dX12_hand_16 ?_
    first
      | (rw [if_neg (by omega)] at h; exact h)
      | (rw [if_pos (by omega), if_neg (by omega)] at h; exact h)
      | (rw [if_pos (by omega)] at h; exact h)
      | (rw [if_neg (by omega), if_pos (by omega)] at h; exact h)
      | (rw [if_neg (by omega), if_neg (by omega)] at h; exact h)
      | (exfalso; omega)
  · dsimp only [jpush]
    simp only [tkBad, tkGood] at w7
    refine e_iconst 11 dX12_hand_10 rfl ?_
    refine e_icmp_le 14 17 dX12_hand_11 (by decide) (by decide) (by decide) rfl (fun h => absurd h (by decide)) (fun _ => ?_)
    refine e_bipush 16 dX12_hand_14 (by decide) rfl ?_
    refine e_iret dX12_hand_16 ?_
    first
      | (rw [if_neg (by omega)] at h; exact h)
      | (rw [if_pos (by omega), if_neg (by omega)] at h; exact h)
      | (rw [if_pos (by omega)] at h; exact h)
      | (rw [if_neg (by omega), if_pos (by omega)] at h; exact h)
      | (rw [if_neg (by omega), if_neg (by omega)] at h; exact h)
      | (exfalso; omega)
  · dsimp only [jpush]
    simp only [tkBad, tkGood] at w7
    refine e_iconst 11 dX12_hand_10 rfl ?_
    refine e_icmp_le 14 17 dX12_hand_11 (by decide) (by decide) (by decide) rfl (fun _ => ?_) (fun h => absurd h (by decide))
    refine e_iload_n (i := 2) 18 dX12_hand_17 rfl rfl rfl ?_
    refine e_iload_n (i := 3) 19 dX12_hand_18 rfl rfl rfl ?_
    refine e_iload 21 dX12_hand_19 rfl rfl ?_
    refine e_iload 23 dX12_hand_21 rfl rfl ?_
    refine e_iload 25 dX12_hand_23 rfl rfl ?_
    refine e_callS 28 mt_yX12_isHand ms_yX12_isHand wd_1733 (by decide) dX12_hand_25 rfl rfl (Nat.le_of_ble_eq_true rfl) (jroom (by decide)) rfl (m_isHand (by omega) (by omega) (by omega) (by omega) (by omega) (fun w25 => ?_) (fun w25 => ?_))
    · dsimp only [jpush]
      refine e_if_ne 31 34 dX12_hand_28 (by decide) (by decide) rfl (fun _ => ?_) (fun h => absurd h (by decide))
      refine e_aload_n (i := 0) 35 dX12_hand_34 rfl rfl rfl ?_
      refine e_getr (j := 1) 38 fl_12_13 dX12_hand_35 at_928 rfl rfl tp_928_1 rfl ?_
      refine e_sipush 41 dX12_hand_38 (by decide) rfl ?_
      refine e_iload_n (i := 1) 42 dX12_hand_41 rfl rfl rfl ?_
      refine e_bipush 44 dX12_hand_42 (by decide) rfl ?_
      have ed : k.tdiv 100 = k / 100 := Int.tdiv_eq_ediv_of_nonneg (by omega)
      have tk := hC.tk (t := k / 100 - 1) (by omega) (by omega)
      have e9 : 3609 + k / 100 - 1 = 3609 + (k / 100 - 1) := by omega
      refine e_idiv 45 dX12_hand_44 (by omega) (by decide) (by decide) rfl ?_
      rw [ed]
      refine e_iadd 46 dX12_hand_45 rfl ?_
      refine e_iconst 47 dX12_hand_46 rfl ?_
      refine e_isub 48 dX12_hand_47 rfl ?_
      rw [e9]
      refine e_iald 49 dX12_hand_48 ar_929 (by omega) (by omega) rfl (fun r48 => ?_)
      refine e_istore (lsn := [(7, _), (0, _), (1, _), (2, _), (3, _), (4, _), (5, _), (6, _)]) 51 dX12_hand_49 (by decide) rfl rfl ?_
      refine e_iconst 52 dX12_hand_51 rfl ?_
      refine e_istore (lsn := [(8, _), (7, _), (0, _), (1, _), (2, _), (3, _), (4, _), (5, _), (6, _)]) 54 dX12_hand_52 (by decide) rfl rfl ?_
      refine e_sipush 57 dX12_hand_54 (by decide) rfl ?_
      refine e_istore (lsn := [(9, _), (8, _), (7, _), (0, _), (1, _), (2, _), (3, _), (4, _), (5, _), (6, _)]) 59 dX12_hand_57 (by decide) rfl rfl ?_
      refine e_iconst 60 dX12_hand_59 rfl ?_
      refine e_istore (lsn := [(10, _), (9, _), (8, _), (7, _), (0, _), (1, _), (2, _), (3, _), (4, _), (5, _), (6, _)]) 62 dX12_hand_60 (by decide) rfl rfl ?_
      refine e_ls (ls2 := [(0, _), (1, _), (2, _), (3, _), (4, _), (5, _), (6, _), (7, _), (8, _), (9, _), (10, _)]) rfl ?_
      rw [if_pos (by omega), if_pos (by omega)] at h
      exact lm_hand hC (by omega) (by omega) (by omega) (by omega) (by omega) (by omega) h 4 0 rfl _ _ _ _ rfl rfl rfl (by rw [if_neg (by omega)])
    · dsimp only [jpush]
      refine e_if_ne 31 34 dX12_hand_28 (by decide) (by decide) rfl (fun h => absurd h (by decide)) (fun _ => ?_)
      refine e_bipush 33 dX12_hand_31 (by decide) rfl ?_
      refine e_iret dX12_hand_33 ?_
      first
        | (rw [if_neg (by omega)] at h; exact h)
        | (rw [if_pos (by omega), if_neg (by omega)] at h; exact h)
        | (rw [if_pos (by omega)] at h; exact h)
        | (rw [if_neg (by omega), if_pos (by omega)] at h; exact h)
        | (rw [if_neg (by omega), if_neg (by omega)] at h; exact h)
        | (exfalso; omega)
  · dsimp only [jpush]
    simp only [tkBad, tkGood] at w7
    refine e_iconst 11 dX12_hand_10 rfl ?_
    refine e_icmp_le 14 17 dX12_hand_11 (by decide) (by decide) (by decide) rfl (fun _ => ?_) (fun h => absurd h (by decide))
    refine e_iload_n (i := 2) 18 dX12_hand_17 rfl rfl rfl ?_
    refine e_iload_n (i := 3) 19 dX12_hand_18 rfl rfl rfl ?_
    refine e_iload 21 dX12_hand_19 rfl rfl ?_
    refine e_iload 23 dX12_hand_21 rfl rfl ?_
    refine e_iload 25 dX12_hand_23 rfl rfl ?_
    refine e_callS 28 mt_yX12_isHand ms_yX12_isHand wd_1733 (by decide) dX12_hand_25 rfl rfl (Nat.le_of_ble_eq_true rfl) (jroom (by decide)) rfl (m_isHand (by omega) (by omega) (by omega) (by omega) (by omega) (fun w25 => ?_) (fun w25 => ?_))
    · dsimp only [jpush]
      refine e_if_ne 31 34 dX12_hand_28 (by decide) (by decide) rfl (fun _ => ?_) (fun h => absurd h (by decide))
      refine e_aload_n (i := 0) 35 dX12_hand_34 rfl rfl rfl ?_
      refine e_getr (j := 1) 38 fl_12_13 dX12_hand_35 at_928 rfl rfl tp_928_1 rfl ?_
      refine e_sipush 41 dX12_hand_38 (by decide) rfl ?_
      refine e_iload_n (i := 1) 42 dX12_hand_41 rfl rfl rfl ?_
      refine e_bipush 44 dX12_hand_42 (by decide) rfl ?_
      have ed : k.tdiv 100 = k / 100 := Int.tdiv_eq_ediv_of_nonneg (by omega)
      have tk := hC.tk (t := k / 100 - 1) (by omega) (by omega)
      have e9 : 3609 + k / 100 - 1 = 3609 + (k / 100 - 1) := by omega
      refine e_idiv 45 dX12_hand_44 (by omega) (by decide) (by decide) rfl ?_
      rw [ed]
      refine e_iadd 46 dX12_hand_45 rfl ?_
      refine e_iconst 47 dX12_hand_46 rfl ?_
      refine e_isub 48 dX12_hand_47 rfl ?_
      rw [e9]
      refine e_iald 49 dX12_hand_48 ar_929 (by omega) (by omega) rfl (fun r48 => ?_)
      refine e_istore (lsn := [(7, _), (0, _), (1, _), (2, _), (3, _), (4, _), (5, _), (6, _)]) 51 dX12_hand_49 (by decide) rfl rfl ?_
      refine e_iconst 52 dX12_hand_51 rfl ?_
      refine e_istore (lsn := [(8, _), (7, _), (0, _), (1, _), (2, _), (3, _), (4, _), (5, _), (6, _)]) 54 dX12_hand_52 (by decide) rfl rfl ?_
      refine e_sipush 57 dX12_hand_54 (by decide) rfl ?_
      refine e_istore (lsn := [(9, _), (8, _), (7, _), (0, _), (1, _), (2, _), (3, _), (4, _), (5, _), (6, _)]) 59 dX12_hand_57 (by decide) rfl rfl ?_
      refine e_iconst 60 dX12_hand_59 rfl ?_
      refine e_istore (lsn := [(10, _), (9, _), (8, _), (7, _), (0, _), (1, _), (2, _), (3, _), (4, _), (5, _), (6, _)]) 62 dX12_hand_60 (by decide) rfl rfl ?_
      refine e_ls (ls2 := [(0, _), (1, _), (2, _), (3, _), (4, _), (5, _), (6, _), (7, _), (8, _), (9, _), (10, _)]) rfl ?_
      rw [if_pos (by omega), if_pos (by omega)] at h
      exact lm_hand hC (by omega) (by omega) (by omega) (by omega) (by omega) (by omega) h 4 0 rfl _ _ _ _ rfl rfl rfl (by rw [if_neg (by omega)])
    · dsimp only [jpush]
      refine e_if_ne 31 34 dX12_hand_28 (by decide) (by decide) rfl (fun h => absurd h (by decide)) (fun _ => ?_)
      refine e_bipush 33 dX12_hand_31 (by decide) rfl ?_
      refine e_iret dX12_hand_33 ?_
      first
        | (rw [if_neg (by omega)] at h; exact h)
        | (rw [if_pos (by omega), if_neg (by omega)] at h; exact h)
        | (rw [if_pos (by omega)] at h; exact h)
        | (rw [if_neg (by omega), if_pos (by omega)] at h; exact h)
        | (rw [if_neg (by omega), if_neg (by omega)] at h; exact h)
        | (exfalso; omega)

theorem p_hand {M : jM} (hI : Inv M) {k : Int} (hk : -2147483648 ≤ k ∧ k ≤ 2147483647) {a : Int} (ha : -2147483648 ≤ a ∧ a ≤ 2147483647) {b : Int} (hb : -2147483648 ≤ b ∧ b ≤ 2147483647) {c : Int} (hc : -2147483648 ≤ c ∧ c ≤ 2147483647) {d : Int} (hd : -2147483648 ≤ d ∧ d ≤ 2147483647) {e : Int} (he : -2147483648 ≤ e ∧ e ≤ 2147483647) : jCt yX11_hand cX11_hand 10 (some .int) 4 [jR 0, jI k, jI a, jI b, jI c, jI d, jI e] M (fun z M1 => jCt yX12_hand cX12_hand 13 (some .int) 3 [jR 928, jI k, jI a, jI b, jI c, jI d, jI e] M1 (fun z2 M2 => z = z2 ∧ Inv M2)) := by
  exact c_hand hk ha hb hc hd he hI.cr (m_hand hk ha hb hc hd he hI.cr hI.1 ⟨rfl, hI⟩)

/-- how much less at the other shop -/
def rSave (a : Int → Int) (q p : Int) : Int := if a (770 + p) = q ∧ a (1010 + p) = 0 ∧ a (830 + p) ≤ rTop a 32 then rI a p - rChg a 32 (a (830 + p)) (1 + (a 708 - a (890 + p)) / 2) else 0
def rRuns (a : Int → Int) (q what : Int) : Nat → Int → Int → Int → Int
  | 0, _, c, s => if what = 0 then c else s
  | n + 1, p, c, s => if 0 < rSave a q p then rRuns a q what n (p + 1) (c + 1) (s + rSave a q p) else rRuns a q what n (p + 1) c s
theorem c_savedThere {q p : Int} {M : jM} {Q : Int → jM → Prop} (hC : CR M) (hq : -2147483648 ≤ q ∧ q ≤ 2147483647) (h0 : 0 ≤ p) (h1 : p < M 929 709) (h : Q (rSave (M 929) q p) M) : jCt yX8_savedThere cX8_savedThere 4 (some .int) 4 [jR 1, jI q, jI p] M Q := by
  refine jCt_of mt_yX8_savedThere (Nat.le_of_ble_eq_true rfl) (fun X => ?_)
  have hn := hC.cnt
  have hg := hC.rng
  have hp := hC.pl h0 h1
  have hpr := hC.plr h0 h1
  have hok := hC.pOk h0 h1
  have hio := hC.iOf h0 h1
  have hto := hC.lrelo.top
  have hi0 := iOf_rng hok
  have hc0 := lChg_rng (loan := M (84 + p) 2) (hv := 1 + (M 1 4 - M (84 + p) 3) / 2) hC.lrelo.ok (by omega) (by omega)
  have hce : lChg M 7 (M (84 + p) 2) (1 + (M 1 4 - M (84 + p) 3) / 2) = rChg (M 929) 32 (M 929 (830 + p)) (1 + (M 929 708 - M 929 (890 + p)) / 2) := by rw [hC.lrelo.chg, hp.1.2.2.1, hp.1.2.2.2.1, hn.2.2.2.2.2.2.1]
  unfold rSave at h
  refine e_aload_n (i := 0) 1 dX8_savedThere_0 rfl rfl rfl ?_
  refine e_getr (j := 9) 4 fl_8_42 dX8_savedThere_1 at_1 rfl rfl tp_1_9 rfl ?_
  refine e_iload_n (i := 2) 5 dX8_savedThere_4 rfl rfl rfl ?_
  refine e_aald 6 dX8_savedThere_5 ar_18 (by decide) (by omega) (by omega) (tp_pledge (by omega) (by omega)) rfl ?_
  refine e_astore_n (i := 3) (lsn := [(3, _), (0, _), (1, _), (2, _)]) 7 dX8_savedThere_6 rfl (by decide) rfl rfl ?_
  refine e_aload_n (i := 3) 8 dX8_savedThere_7 rfl rfl rfl ?_
  refine e_geti (j := 1) 11 fl_8_246 dX8_savedThere_8 (at_pledge (by omega) (by omega)) (by decide) rfl rfl (fun r8 => ?_)
  refine e_iload_n (i := 1) 12 dX8_savedThere_11 rfl rfl rfl ?_
  refine e_icmp_ne 15 36 dX8_savedThere_12 (by omega) (by omega) (by decide) rfl (fun b12 => ?_) (fun b12 => ?_)
  · skip
    refine e_iconst 37 dX8_savedThere_36 rfl ?_
    refine e_iret dX8_savedThere_37 ?_
    rw [if_neg (by omega)] at h
    exact h
  · skip
    refine e_aload_n (i := 3) 16 dX8_savedThere_15 rfl rfl rfl ?_
    refine e_geti (j := 6) 19 fl_8_135 dX8_savedThere_16 (at_pledge (by omega) (by omega)) (by decide) rfl rfl (fun r16 => ?_)
    refine e_if_ne 22 36 dX8_savedThere_19 (by omega) (by decide) rfl (fun b19 => ?_) (fun b19 => ?_)
    · skip
      refine e_iconst 37 dX8_savedThere_36 rfl ?_
      refine e_iret dX8_savedThere_37 ?_
      rw [if_neg (by omega)] at h
      exact h
    · skip
      refine e_aload_n (i := 0) 23 dX8_savedThere_22 rfl rfl rfl ?_
      refine e_getr (j := 1) 26 fl_8_18 dX8_savedThere_23 at_1 rfl rfl tp_1_1 rfl ?_
      refine e_aload_n (i := 3) 27 dX8_savedThere_26 rfl rfl rfl ?_
      refine e_geti (j := 2) 30 fl_8_205 dX8_savedThere_27 (at_pledge (by omega) (by omega)) (by decide) rfl rfl (fun r27 => ?_)
      refine e_callV 33 mt_yX1_lends mv_yX1_lends wd_784 (by decide) dX8_savedThere_30 at_7 jc_1 rfl rfl rfl (Nat.le_of_ble_eq_true rfl) (jroom (by decide)) rfl (c_lends (by omega) lw_7 hC.lrelo.ok (fun w30 => ?_) (fun w30 => ?_))
      · dsimp only [jpush]
        refine e_if_ne 36 38 dX8_savedThere_33 (by decide) (by decide) rfl (fun _ => ?_) (fun h => absurd h (by decide))
        refine e_aload_n (i := 0) 39 dX8_savedThere_38 rfl rfl rfl ?_
        refine e_aload_n (i := 3) 40 dX8_savedThere_39 rfl rfl rfl ?_
        refine e_callV 43 mt_yX8_interestOf mv_yX8_interestOf wd_821 (by decide) dX8_savedThere_40 at_1 jc_8 rfl rfl rfl (Nat.le_of_ble_eq_true rfl) (jroom (by decide)) rfl (c_interestOf hok ?_)
        dsimp only [jpush]
        refine e_aload_n (i := 0) 44 dX8_savedThere_43 rfl rfl rfl ?_
        refine e_getr (j := 1) 47 fl_8_18 dX8_savedThere_44 at_1 rfl rfl tp_1_1 rfl ?_
        refine e_aload_n (i := 3) 48 dX8_savedThere_47 rfl rfl rfl ?_
        refine e_geti (j := 2) 51 fl_8_205 dX8_savedThere_48 (at_pledge (by omega) (by omega)) (by decide) rfl rfl (fun r48 => ?_)
        refine e_aload_n (i := 3) 52 dX8_savedThere_51 rfl rfl rfl ?_
        refine e_geti (j := 3) 55 fl_8_208 dX8_savedThere_52 (at_pledge (by omega) (by omega)) (by decide) rfl rfl (fun r52 => ?_)
        refine e_aload_n (i := 0) 56 dX8_savedThere_55 rfl rfl rfl ?_
        refine e_geti (j := 4) 59 fl_8_81 dX8_savedThere_56 at_1 (by decide) rfl rfl (fun r56 => ?_)
        refine e_callS 62 mt_yX1_halves ms_yX1_halves wd_825 (by decide) dX8_savedThere_59 rfl rfl (Nat.le_of_ble_eq_true rfl) (jroom (by decide)) rfl (c_halves (by omega) ?_)
        dsimp only [jpush]
        refine e_callV 65 mt_yX1_charge mv_yX1_charge wd_826 (by decide) dX8_savedThere_62 at_7 jc_1 rfl rfl rfl (Nat.le_of_ble_eq_true rfl) (jroom (by decide)) rfl (c_charge (by omega) (by omega) lw_7 hC.lrelo.ok ?_)
        dsimp only [jpush]
        refine e_isub 66 dX8_savedThere_65 rfl ?_
        refine e_iret dX8_savedThere_66 ?_
        rw [if_pos (by omega)] at h
        rw [hio, hce]
        exact h
      · dsimp only [jpush]
        refine e_if_ne 36 38 dX8_savedThere_33 (by decide) (by decide) rfl (fun h => absurd h (by decide)) (fun _ => ?_)
        refine e_iconst 37 dX8_savedThere_36 rfl ?_
        refine e_iret dX8_savedThere_37 ?_
        rw [if_neg (by omega)] at h
        exact h

theorem rSave_rng {M : jM} (hC : CR M) {q p : Int} (h0 : 0 ≤ p) (h1 : p < M 929 709) : -39560400 ≤ rSave (M 929) q p ∧ rSave (M 929) q p ≤ 39560400 := by
  have hn := hC.cnt
  have hg := hC.rng
  have hp := hC.pl h0 h1
  have hpr := hC.plr h0 h1
  have hok := hC.pOk h0 h1
  have hio := hC.iOf h0 h1
  have hto := hC.lrelo.top
  have hi0 := iOf_rng hok
  have hc0 := lChg_rng (loan := M (84 + p) 2) (hv := 1 + (M 1 4 - M (84 + p) 3) / 2) hC.lrelo.ok (by omega) (by omega)
  have hce : lChg M 7 (M (84 + p) 2) (1 + (M 1 4 - M (84 + p) 3) / 2) = rChg (M 929) 32 (M 929 (830 + p)) (1 + (M 929 708 - M 929 (890 + p)) / 2) := by rw [hC.lrelo.chg, hp.1.2.2.1, hp.1.2.2.2.1, hn.2.2.2.2.2.2.1]
  have hi1 := rChg_rng (loan := M 929 (830 + p)) (hv := 1 + (M 929 708 - M 929 (890 + p)) / 2) hC.rolaw (by omega) (by omega)
  unfold rSave
  rw [← hio]
  split <;> omega
theorem l_runs {X : jX} {q what : Int} {M : jM} {Q : Int → jM → Prop} (hC : CR M) (hq : -2147483648 ≤ q ∧ q ≤ 2147483647) (hwh : -2147483648 ≤ what ∧ what ≤ 2147483647) : ∀ (n : Nat) (ii c s : Int), 0 ≤ ii → ii + n = M 929 709 → Q (rRuns (M 929) q what n ii c s) M → jE X yX11_runs cX11_runs 7 (some .int) 5 Q M 44 [(0, jR 0), (1, jI q), (2, jI what), (3, jI c), (4, jI s), (5, jI ii)] [] := by
  intro n
  induction n with
  | zero =>
    intro ii c s h0 hi h
    have hn := hC.cnt
    have hg := hC.rng
    rw [rRuns] at h
    refine e_iload 46 dX11_runs_44 rfl rfl ?_
    refine e_aload_n (i := 0) 47 dX11_runs_46 rfl rfl rfl ?_
    refine e_getr (j := 0) 50 fl_11_10 dX11_runs_47 at_0 rfl rfl tp_0_0 rfl ?_
    refine e_geti (j := 10) 53 fl_11_271 dX11_runs_50 at_1 (by decide) rfl rfl (fun r50 => ?_)
    refine e_icmp_ge 56 89 dX11_runs_53 (by omega) (by omega) (by decide) rfl (fun b53 => ?_) (fun b53 => ?_)
    · skip
      refine e_iload_n (i := 2) 90 dX11_runs_89 rfl rfl rfl ?_
      refine e_if_ne 93 97 dX11_runs_90 (by omega) (by decide) rfl (fun b90 => ?_) (fun b90 => ?_)
      · skip
        refine e_iload 99 dX11_runs_97 rfl rfl ?_
        refine e_iret dX11_runs_99 ?_
        rw [if_neg (by omega)] at h
        exact h
      · skip
        refine e_iload_n (i := 3) 94 dX11_runs_93 rfl rfl rfl ?_
        refine e_goto 99 dX11_runs_94 (by decide) ?_
        refine e_iret dX11_runs_99 ?_
        rw [if_pos (by omega)] at h
        exact h
    · omega
  | succ n ih =>
    intro ii c s h0 hi h
    have hn := hC.cnt
    have hg := hC.rng
    rw [rRuns] at h
    refine e_iload 46 dX11_runs_44 rfl rfl ?_
    refine e_aload_n (i := 0) 47 dX11_runs_46 rfl rfl rfl ?_
    refine e_getr (j := 0) 50 fl_11_10 dX11_runs_47 at_0 rfl rfl tp_0_0 rfl ?_
    refine e_geti (j := 10) 53 fl_11_271 dX11_runs_50 at_1 (by decide) rfl rfl (fun r50 => ?_)
    refine e_icmp_ge 56 89 dX11_runs_53 (by omega) (by omega) (by decide) rfl (fun b53 => ?_) (fun b53 => ?_)
    · omega
    · skip
      refine e_aload_n (i := 0) 57 dX11_runs_56 rfl rfl rfl ?_
      refine e_getr (j := 0) 60 fl_11_10 dX11_runs_57 at_0 rfl rfl tp_0_0 rfl ?_
      refine e_iload_n (i := 1) 61 dX11_runs_60 rfl rfl rfl ?_
      refine e_iload 63 dX11_runs_61 rfl rfl ?_
      refine e_callV 66 mt_yX8_savedThere mv_yX8_savedThere wd_1078 (by decide) dX11_runs_63 at_1 jc_8 rfl rfl rfl (Nat.le_of_ble_eq_true rfl) (jroom (by decide)) rfl (c_savedThere hC (by omega) (by omega) (by omega) ?_)
      dsimp only [jpush]
      have hsr := rSave_rng hC (q := q) h0 (show ii < M 929 709 by omega)
      refine e_istore (lsn := [(6, _), (0, _), (1, _), (2, _), (3, _), (4, _), (5, _)]) 68 dX11_runs_66 (by decide) rfl rfl ?_
      refine e_iload 70 dX11_runs_68 rfl rfl ?_
      refine e_if_le 73 83 dX11_runs_70 (by omega) (by decide) rfl (fun b70 => ?_) (fun b70 => ?_)
      · skip
        refine e_iinc (lsn := [(5, _), (6, _), (0, _), (1, _), (2, _), (3, _), (4, _)]) 86 dX11_runs_83 rfl (by decide) rfl rfl ?_
        refine e_goto 44 dX11_runs_86 (by decide) ?_
        refine e_ls (ls2 := [(0, _), (1, _), (2, _), (3, _), (4, _), (5, _)]) rfl ?_
        rw [if_neg (by omega)] at h
        exact ih _ _ _ (by omega) (by omega) h
      · skip
        refine e_iinc (lsn := [(3, _), (6, _), (0, _), (1, _), (2, _), (4, _), (5, _)]) 76 dX11_runs_73 rfl (by decide) rfl rfl ?_
        refine e_iload 78 dX11_runs_76 rfl rfl ?_
        refine e_iload 80 dX11_runs_78 rfl rfl ?_
        refine e_iadd 81 dX11_runs_80 rfl ?_
        refine e_istore (lsn := [(4, _), (3, _), (6, _), (0, _), (1, _), (2, _), (5, _)]) 83 dX11_runs_81 (by decide) rfl rfl ?_
        refine e_iinc (lsn := [(5, _), (4, _), (3, _), (6, _), (0, _), (1, _), (2, _)]) 86 dX11_runs_83 rfl (by decide) rfl rfl ?_
        refine e_goto 44 dX11_runs_86 (by decide) ?_
        refine e_ls (ls2 := [(0, _), (1, _), (2, _), (3, _), (4, _), (5, _)]) rfl ?_
        rw [if_pos (by omega)] at h
        exact ih _ _ _ (by omega) (by omega) h

theorem c_runs {q what : Int} {M : jM} {Q : Int → jM → Prop} (hC : CR M) (hq : -2147483648 ≤ q ∧ q ≤ 2147483647) (hwh : -2147483648 ≤ what ∧ what ≤ 2147483647) (h2 : q < 0 ∨ M 929 643 ≤ q ∨ what < 0 ∨ 1 < what → Q (-2) M) (h5 : M 929 64 = 0 ∧ (0 ≤ q ∧ q < M 929 643) ∧ 0 ≤ what ∧ what ≤ 1 → Q (-5) M) (h : M 929 64 = 1 ∧ (0 ≤ q ∧ q < M 929 643) ∧ 0 ≤ what ∧ what ≤ 1 → Q (rRuns (M 929) q what (M 929 709).toNat 0 0 0) M) : jCt yX11_runs cX11_runs 7 (some .int) 5 [jR 0, jI q, jI what] M Q := by
  refine jCt_of mt_yX11_runs (Nat.le_of_ble_eq_true rfl) (fun X => ?_)
  have hn := hC.cnt
  have hg := hC.rng
  refine e_aload_n (i := 0) 1 dX11_runs_0 rfl rfl rfl ?_
  refine e_getr (j := 0) 4 fl_11_10 dX11_runs_1 at_0 rfl rfl tp_0_0 rfl ?_
  refine e_iload_n (i := 1) 5 dX11_runs_4 rfl rfl rfl ?_
  refine e_callV 8 mt_yX8_hasPerson mv_yX8_hasPerson wd_761 (by decide) dX11_runs_5 at_1 jc_8 rfl rfl rfl (Nat.le_of_ble_eq_true rfl) (jroom (by decide)) rfl (c_hasPerson (by omega) (fun w5 => ?_) (fun w5 => ?_))
  · dsimp only [jpush]
    refine e_if_eq 11 20 dX11_runs_8 (by decide) (by decide) rfl (fun h => absurd h (by decide)) (fun _ => ?_)
    refine e_iload_n (i := 2) 12 dX11_runs_11 rfl rfl rfl ?_
    refine e_iconst 13 dX11_runs_12 rfl ?_
    refine e_iconst 14 dX11_runs_13 rfl ?_
    refine e_callS 17 mt_yX11_within ms_yX11_within wd_531 (by decide) dX11_runs_14 rfl rfl (Nat.le_of_ble_eq_true rfl) (jroom (by decide)) rfl (c_within (by omega) (by omega) (by omega) (fun w14 => ?_) (fun w14 => ?_))
    · dsimp only [jpush]
      refine e_if_ne 20 23 dX11_runs_17 (by decide) (by decide) rfl (fun _ => ?_) (fun h => absurd h (by decide))
      refine e_aload_n (i := 0) 24 dX11_runs_23 rfl rfl rfl ?_
      refine e_getr (j := 0) 27 fl_11_10 dX11_runs_24 at_0 rfl rfl tp_0_0 rfl ?_
      refine e_geti (j := 2) 30 fl_11_105 dX11_runs_27 at_1 (by decide) rfl rfl (fun r27 => ?_)
      refine e_if_ne 33 36 dX11_runs_30 (by omega) (by decide) rfl (fun b30 => ?_) (fun b30 => ?_)
      · skip
        refine e_iconst 37 dX11_runs_36 rfl ?_
        refine e_istore_n (i := 3) (lsn := [(3, _), (0, _), (1, _), (2, _)]) 38 dX11_runs_37 rfl (by decide) rfl rfl ?_
        refine e_iconst 39 dX11_runs_38 rfl ?_
        refine e_istore (lsn := [(4, _), (3, _), (0, _), (1, _), (2, _)]) 41 dX11_runs_39 (by decide) rfl rfl ?_
        refine e_iconst 42 dX11_runs_41 rfl ?_
        refine e_istore (lsn := [(5, _), (4, _), (3, _), (0, _), (1, _), (2, _)]) 44 dX11_runs_42 (by decide) rfl rfl ?_
        refine e_ls (ls2 := [(0, _), (1, _), (2, _), (3, _), (4, _), (5, _)]) rfl ?_
        exact l_runs hC hq hwh (M 929 709).toNat 0 0 0 (by omega) (by omega) (h (by omega))
      · skip
        refine e_bipush 35 dX11_runs_33 (by decide) rfl ?_
        refine e_iret dX11_runs_35 ?_
        first | exact h2 (by omega) | exact h5 (by omega)
    · dsimp only [jpush]
      refine e_if_ne 20 23 dX11_runs_17 (by decide) (by decide) rfl (fun h => absurd h (by decide)) (fun _ => ?_)
      refine e_bipush 22 dX11_runs_20 (by decide) rfl ?_
      refine e_iret dX11_runs_22 ?_
      first | exact h2 (by omega) | exact h5 (by omega)
  · dsimp only [jpush]
    refine e_if_eq 11 20 dX11_runs_8 (by decide) (by decide) rfl (fun _ => ?_) (fun h => absurd h (by decide))
    refine e_bipush 22 dX11_runs_20 (by decide) rfl ?_
    refine e_iret dX11_runs_22 ?_
    first | exact h2 (by omega) | exact h5 (by omega)

theorem lm_runs {X : jX} {q what : Int} {M : jM} {Q : Int → jM → Prop} (hC : CR M) (hq : -2147483648 ≤ q ∧ q ≤ 2147483647) (hwh : -2147483648 ≤ what ∧ what ≤ 2147483647) : ∀ (n : Nat) (ii c s : Int), 0 ≤ ii → ii + n = M 929 709 → Q (rRuns (M 929) q what n ii c s) M → jE X yX12_runs cX12_runs 8 (some .int) 3 Q M 47 [(0, jR 928), (1, jI q), (2, jI what), (3, jI c), (4, jI s), (5, jI ii)] [] := by
  intro n
  induction n with
  | zero =>
    intro ii c s h0 hi h
    have hn := hC.cnt
    have hg := hC.rng
    rw [rRuns] at h
    refine e_iload 49 dX12_runs_47 rfl rfl ?_
    refine e_aload_n (i := 0) 50 dX12_runs_49 rfl rfl rfl ?_
    refine e_getr (j := 1) 53 fl_12_13 dX12_runs_50 at_928 rfl rfl tp_928_1 rfl ?_
    refine e_sipush 56 dX12_runs_53 (by decide) rfl ?_
    refine e_iald 57 dX12_runs_56 ar_929 (by decide) (by decide) rfl (fun r56 => ?_)
    refine e_icmp_ge 60 177 dX12_runs_57 (by omega) (by omega) (by decide) rfl (fun b57 => ?_) (fun b57 => ?_)
    · skip
      refine e_iload_n (i := 2) 178 dX12_runs_177 rfl rfl rfl ?_
      refine e_if_ne 181 185 dX12_runs_178 (by omega) (by decide) rfl (fun b178 => ?_) (fun b178 => ?_)
      · skip
        refine e_iload 187 dX12_runs_185 rfl rfl ?_
        refine e_iret dX12_runs_187 ?_
        rw [if_neg (by omega)] at h
        exact h
      · skip
        refine e_iload_n (i := 3) 182 dX12_runs_181 rfl rfl rfl ?_
        refine e_goto 187 dX12_runs_182 (by decide) ?_
        refine e_iret dX12_runs_187 ?_
        rw [if_pos (by omega)] at h
        exact h
    · omega
  | succ n ih =>
    intro ii c s h0 hi h
    have hn := hC.cnt
    have hg := hC.rng
    rw [rRuns] at h
    refine e_iload 49 dX12_runs_47 rfl rfl ?_
    refine e_aload_n (i := 0) 50 dX12_runs_49 rfl rfl rfl ?_
    refine e_getr (j := 1) 53 fl_12_13 dX12_runs_50 at_928 rfl rfl tp_928_1 rfl ?_
    refine e_sipush 56 dX12_runs_53 (by decide) rfl ?_
    refine e_iald 57 dX12_runs_56 ar_929 (by decide) (by decide) rfl (fun r56 => ?_)
    refine e_icmp_ge 60 177 dX12_runs_57 (by omega) (by omega) (by decide) rfl (fun b57 => ?_) (fun b57 => ?_)
    · omega
    · skip
      have hpr := hC.plr h0 (show ii < M 929 709 by omega)
      have hto := rTop_rng hC.rolaw
      have hi1 := rChg_rng (loan := M 929 (830 + ii)) (hv := 1 + (M 929 708 - M 929 (890 + ii)) / 2) hC.rolaw (by omega) (by omega)
      have hi2 := rI_rng (hC.1.okP h0 (show ii < M 929 709 by omega))
      refine e_aload_n (i := 0) 61 dX12_runs_60 rfl rfl rfl ?_
      refine e_getr (j := 1) 64 fl_12_13 dX12_runs_61 at_928 rfl rfl tp_928_1 rfl ?_
      refine e_sipush 67 dX12_runs_64 (by decide) rfl ?_
      refine e_iload 69 dX12_runs_67 rfl rfl ?_
      refine e_iadd 70 dX12_runs_69 rfl ?_
      refine e_iald 71 dX12_runs_70 ar_929 (by omega) (by omega) rfl (fun r70 => ?_)
      refine e_iload_n (i := 1) 72 dX12_runs_71 rfl rfl rfl ?_
      refine e_icmp_ne 75 171 dX12_runs_72 (by omega) (by omega) (by decide) rfl (fun b72 => ?_) (fun b72 => ?_)
      · skip
        refine e_iinc (lsn := [(5, _), (0, _), (1, _), (2, _), (3, _), (4, _)]) 174 dX12_runs_171 rfl (by decide) rfl rfl ?_
        refine e_goto 47 dX12_runs_174 (by decide) ?_
        refine e_ls (ls2 := [(0, _), (1, _), (2, _), (3, _), (4, _), (5, _)]) rfl ?_
        first
          | (exfalso; omega)
          | (have e : rSave (M 929) q ii = 0 := if_neg (by omega)
             rw [e, if_neg (by omega)] at h
             exact ih _ _ _ (by omega) (by omega) h)
      · skip
        refine e_aload_n (i := 0) 76 dX12_runs_75 rfl rfl rfl ?_
        refine e_getr (j := 1) 79 fl_12_13 dX12_runs_76 at_928 rfl rfl tp_928_1 rfl ?_
        refine e_sipush 82 dX12_runs_79 (by decide) rfl ?_
        refine e_iload 84 dX12_runs_82 rfl rfl ?_
        refine e_iadd 85 dX12_runs_84 rfl ?_
        refine e_iald 86 dX12_runs_85 ar_929 (by omega) (by omega) rfl (fun r85 => ?_)
        refine e_if_eq 89 92 dX12_runs_86 (by omega) (by decide) rfl (fun b86 => ?_) (fun b86 => ?_)
        · skip
          refine e_aload_n (i := 0) 93 dX12_runs_92 rfl rfl rfl ?_
          refine e_bipush 95 dX12_runs_93 (by decide) rfl ?_
          refine e_aload_n (i := 0) 96 dX12_runs_95 rfl rfl rfl ?_
          refine e_getr (j := 1) 99 fl_12_13 dX12_runs_96 at_928 rfl rfl tp_928_1 rfl ?_
          refine e_sipush 102 dX12_runs_99 (by decide) rfl ?_
          refine e_iload 104 dX12_runs_102 rfl rfl ?_
          refine e_iadd 105 dX12_runs_104 rfl ?_
          refine e_iald 106 dX12_runs_105 ar_929 (by omega) (by omega) rfl (fun r105 => ?_)
          refine e_aload_n (i := 0) 107 dX12_runs_106 rfl rfl rfl ?_
          refine e_getr (j := 1) 110 fl_12_13 dX12_runs_107 at_928 rfl rfl tp_928_1 rfl ?_
          refine e_sipush 113 dX12_runs_110 (by decide) rfl ?_
          refine e_iald 114 dX12_runs_113 ar_929 (by decide) (by decide) rfl (fun r113 => ?_)
          refine e_aload_n (i := 0) 115 dX12_runs_114 rfl rfl rfl ?_
          refine e_getr (j := 1) 118 fl_12_13 dX12_runs_115 at_928 rfl rfl tp_928_1 rfl ?_
          refine e_sipush 121 dX12_runs_118 (by decide) rfl ?_
          refine e_iload 123 dX12_runs_121 rfl rfl ?_
          refine e_iadd 124 dX12_runs_123 rfl ?_
          refine e_iald 125 dX12_runs_124 ar_929 (by omega) (by omega) rfl (fun r124 => ?_)
          refine e_isub 126 dX12_runs_125 rfl ?_
          refine e_callS 129 mt_yX12_halvesOf ms_yX12_halvesOf wd_1484 (by decide) dX12_runs_126 rfl rfl (Nat.le_of_ble_eq_true rfl) (jroom (by decide)) rfl (m_halvesOf (by omega) ?_)
          dsimp only [jpush]
          refine e_callV 132 mt_yX12_interestBy mv_yX12_interestBy wd_1487 (by decide) dX12_runs_129 at_928 jc_12 rfl rfl rfl (Nat.le_of_ble_eq_true rfl) (jroom (by decide)) rfl (m_interestBy (by decide) (by omega) (by omega) hC.rolaw (fun w129 => ?_) (fun w129 => ?_))
          · dsimp only [jpush]
            refine e_istore (lsn := [(6, _), (0, _), (1, _), (2, _), (3, _), (4, _), (5, _)]) 134 dX12_runs_132 (by decide) rfl rfl ?_
            refine e_aload_n (i := 0) 135 dX12_runs_134 rfl rfl rfl ?_
            refine e_iload 137 dX12_runs_135 rfl rfl ?_
            refine e_callV 140 mt_yX12_interestOf mv_yX12_interestOf wd_1551 (by decide) dX12_runs_137 at_928 jc_12 rfl rfl rfl (Nat.le_of_ble_eq_true rfl) (jroom (by decide)) rfl (m_interestOf (hC.1.okP h0 (show ii < M 929 709 by omega)) ?_)
            dsimp only [jpush]
            refine e_istore (lsn := [(7, _), (6, _), (0, _), (1, _), (2, _), (3, _), (4, _), (5, _)]) 142 dX12_runs_140 (by decide) rfl rfl ?_
            refine e_iload 144 dX12_runs_142 rfl rfl ?_
            refine e_iconst 145 dX12_runs_144 rfl ?_
            refine e_icmp_eq 148 171 dX12_runs_145 (by omega) (by decide) (by decide) rfl (fun b145 => ?_) (fun b145 => ?_)
            · skip
              refine e_iinc (lsn := [(5, _), (7, _), (6, _), (0, _), (1, _), (2, _), (3, _), (4, _)]) 174 dX12_runs_171 rfl (by decide) rfl rfl ?_
              refine e_goto 47 dX12_runs_174 (by decide) ?_
              refine e_ls (ls2 := [(0, _), (1, _), (2, _), (3, _), (4, _), (5, _)]) rfl ?_
              first
                | (exfalso; omega)
                | (have e : rSave (M 929) q ii = 0 := if_neg (by omega)
                   rw [e, if_neg (by omega)] at h
                   exact ih _ _ _ (by omega) (by omega) h)
            · skip
              refine e_iload 150 dX12_runs_148 rfl rfl ?_
              refine e_iload 152 dX12_runs_150 rfl rfl ?_
              refine e_icmp_lt 155 158 dX12_runs_152 (by omega) (by omega) (by decide) rfl (fun b152 => ?_) (fun b152 => ?_)
              · skip
                refine e_iinc (lsn := [(3, _), (7, _), (6, _), (0, _), (1, _), (2, _), (4, _), (5, _)]) 161 dX12_runs_158 rfl (by decide) rfl rfl ?_
                refine e_iload 163 dX12_runs_161 rfl rfl ?_
                refine e_iload 165 dX12_runs_163 rfl rfl ?_
                refine e_iload 167 dX12_runs_165 rfl rfl ?_
                refine e_isub 168 dX12_runs_167 rfl ?_
                refine e_iadd 169 dX12_runs_168 rfl ?_
                refine e_istore (lsn := [(4, _), (3, _), (7, _), (6, _), (0, _), (1, _), (2, _), (5, _)]) 171 dX12_runs_169 (by decide) rfl rfl ?_
                refine e_iinc (lsn := [(5, _), (4, _), (3, _), (7, _), (6, _), (0, _), (1, _), (2, _)]) 174 dX12_runs_171 rfl (by decide) rfl rfl ?_
                refine e_goto 47 dX12_runs_174 (by decide) ?_
                refine e_ls (ls2 := [(0, _), (1, _), (2, _), (3, _), (4, _), (5, _)]) rfl ?_
                first
                  | (exfalso; omega)
                  | (have e : rSave (M 929) q ii = _ := if_pos (by omega)
                     rw [e, if_pos (by omega)] at h
                     exact ih _ _ _ (by omega) (by omega) h)
              · skip
                refine e_goto 171 dX12_runs_155 (by decide) ?_
                refine e_iinc (lsn := [(5, _), (7, _), (6, _), (0, _), (1, _), (2, _), (3, _), (4, _)]) 174 dX12_runs_171 rfl (by decide) rfl rfl ?_
                refine e_goto 47 dX12_runs_174 (by decide) ?_
                refine e_ls (ls2 := [(0, _), (1, _), (2, _), (3, _), (4, _), (5, _)]) rfl ?_
                first
                  | (exfalso; omega)
                  | (have e : rSave (M 929) q ii = _ := if_pos (by omega)
                     rw [e, if_neg (by omega)] at h
                     exact ih _ _ _ (by omega) (by omega) h)
          · dsimp only [jpush]
            refine e_istore (lsn := [(6, _), (0, _), (1, _), (2, _), (3, _), (4, _), (5, _)]) 134 dX12_runs_132 (by decide) rfl rfl ?_
            refine e_aload_n (i := 0) 135 dX12_runs_134 rfl rfl rfl ?_
            refine e_iload 137 dX12_runs_135 rfl rfl ?_
            refine e_callV 140 mt_yX12_interestOf mv_yX12_interestOf wd_1551 (by decide) dX12_runs_137 at_928 jc_12 rfl rfl rfl (Nat.le_of_ble_eq_true rfl) (jroom (by decide)) rfl (m_interestOf (hC.1.okP h0 (show ii < M 929 709 by omega)) ?_)
            dsimp only [jpush]
            refine e_istore (lsn := [(7, _), (6, _), (0, _), (1, _), (2, _), (3, _), (4, _), (5, _)]) 142 dX12_runs_140 (by decide) rfl rfl ?_
            refine e_iload 144 dX12_runs_142 rfl rfl ?_
            refine e_iconst 145 dX12_runs_144 rfl ?_
            refine e_icmp_eq 148 171 dX12_runs_145 (by decide) (by decide) (by decide) rfl (fun _ => ?_) (fun h => absurd h (by decide))
            refine e_iinc (lsn := [(5, _), (7, _), (6, _), (0, _), (1, _), (2, _), (3, _), (4, _)]) 174 dX12_runs_171 rfl (by decide) rfl rfl ?_
            refine e_goto 47 dX12_runs_174 (by decide) ?_
            refine e_ls (ls2 := [(0, _), (1, _), (2, _), (3, _), (4, _), (5, _)]) rfl ?_
            first
              | (exfalso; omega)
              | (have e : rSave (M 929) q ii = 0 := if_neg (by omega)
                 rw [e, if_neg (by omega)] at h
                 exact ih _ _ _ (by omega) (by omega) h)
        · skip
          refine e_goto 171 dX12_runs_89 (by decide) ?_
          refine e_iinc (lsn := [(5, _), (0, _), (1, _), (2, _), (3, _), (4, _)]) 174 dX12_runs_171 rfl (by decide) rfl rfl ?_
          refine e_goto 47 dX12_runs_174 (by decide) ?_
          refine e_ls (ls2 := [(0, _), (1, _), (2, _), (3, _), (4, _), (5, _)]) rfl ?_
          first
            | (exfalso; omega)
            | (have e : rSave (M 929) q ii = 0 := if_neg (by omega)
               rw [e, if_neg (by omega)] at h
               exact ih _ _ _ (by omega) (by omega) h)

theorem m_runs {q what : Int} {M : jM} {Q : Int → jM → Prop} (hC : CR M) (ht : M 928 0 = 0) (hq : -2147483648 ≤ q ∧ q ≤ 2147483647) (hwh : -2147483648 ≤ what ∧ what ≤ 2147483647) (h2 : q < 0 ∨ M 929 643 ≤ q ∨ what < 0 ∨ 1 < what → Q (-2) M) (h5 : M 929 64 = 0 ∧ (0 ≤ q ∧ q < M 929 643) ∧ 0 ≤ what ∧ what ≤ 1 → Q (-5) M) (h : M 929 64 = 1 ∧ (0 ≤ q ∧ q < M 929 643) ∧ 0 ≤ what ∧ what ≤ 1 → Q (rRuns (M 929) q what (M 929 709).toNat 0 0 0) M) : jCt yX12_runs cX12_runs 8 (some .int) 3 [jR 928, jI q, jI what] M Q := by
  refine jCt_of mt_yX12_runs (Nat.le_of_ble_eq_true rfl) (fun X => ?_)
  have hn := hC.cnt
  have hg := hC.rng
  refine e_aload_n (i := 0) 1 dX12_runs_0 rfl rfl rfl ?_
  refine e_iconst 2 dX12_runs_1 rfl ?_
  refine e_put0 (j := 0) 5 fl_12_1 dX12_runs_2 at_928 rfl rfl rfl (by decide) ht rfl ?_
  refine e_aload_n (i := 0) 6 dX12_runs_5 rfl rfl rfl ?_
  refine e_iload_n (i := 1) 7 dX12_runs_6 rfl rfl rfl ?_
  refine e_callV 10 mt_yX12_isPerson mv_yX12_isPerson wd_1506 (by decide) dX12_runs_7 at_928 jc_12 rfl rfl rfl (Nat.le_of_ble_eq_true rfl) (jroom (by decide)) rfl (m_isPerson (by omega) (fun w7 => ?_) (fun w7 => ?_))
  · dsimp only [jpush]
    refine e_if_eq 13 23 dX12_runs_10 (by decide) (by decide) rfl (fun h => absurd h (by decide)) (fun _ => ?_)
    refine e_iload_n (i := 2) 14 dX12_runs_13 rfl rfl rfl ?_
    refine e_i2l 15 dX12_runs_14 (by omega) rfl ?_
    refine e_lconst0 16 dX12_runs_15 rfl ?_
    refine e_lconst1 17 dX12_runs_16 rfl ?_
    refine e_callS 20 mt_yX12_within ms_yX12_within wd_1390 (by decide) dX12_runs_17 rfl rfl (Nat.le_of_ble_eq_true rfl) (jroom (by decide)) rfl (m_within (by omega) (by omega) (by omega) (fun w17 => ?_) (fun w17 => ?_))
    · dsimp only [jpush]
      refine e_if_ne 23 26 dX12_runs_20 (by decide) (by decide) rfl (fun _ => ?_) (fun h => absurd h (by decide))
      refine e_aload_n (i := 0) 27 dX12_runs_26 rfl rfl rfl ?_
      refine e_getr (j := 1) 30 fl_12_13 dX12_runs_27 at_928 rfl rfl tp_928_1 rfl ?_
      refine e_bipush 32 dX12_runs_30 (by decide) rfl ?_
      refine e_iald 33 dX12_runs_32 ar_929 (by decide) (by decide) rfl (fun r32 => ?_)
      refine e_if_ne 36 39 dX12_runs_33 (by omega) (by decide) rfl (fun b33 => ?_) (fun b33 => ?_)
      · skip
        refine e_iconst 40 dX12_runs_39 rfl ?_
        refine e_istore_n (i := 3) (lsn := [(3, _), (0, _), (1, _), (2, _)]) 41 dX12_runs_40 rfl (by decide) rfl rfl ?_
        refine e_iconst 42 dX12_runs_41 rfl ?_
        refine e_istore (lsn := [(4, _), (3, _), (0, _), (1, _), (2, _)]) 44 dX12_runs_42 (by decide) rfl rfl ?_
        refine e_iconst 45 dX12_runs_44 rfl ?_
        refine e_istore (lsn := [(5, _), (4, _), (3, _), (0, _), (1, _), (2, _)]) 47 dX12_runs_45 (by decide) rfl rfl ?_
        refine e_ls (ls2 := [(0, _), (1, _), (2, _), (3, _), (4, _), (5, _)]) rfl ?_
        exact lm_runs hC hq hwh (M 929 709).toNat 0 0 0 (by omega) (by omega) (h (by omega))
      · skip
        refine e_bipush 38 dX12_runs_36 (by decide) rfl ?_
        refine e_iret dX12_runs_38 ?_
        first | exact h2 (by omega) | exact h5 (by omega)
    · dsimp only [jpush]
      refine e_if_ne 23 26 dX12_runs_20 (by decide) (by decide) rfl (fun h => absurd h (by decide)) (fun _ => ?_)
      refine e_bipush 25 dX12_runs_23 (by decide) rfl ?_
      refine e_iret dX12_runs_25 ?_
      first | exact h2 (by omega) | exact h5 (by omega)
  · dsimp only [jpush]
    refine e_if_eq 13 23 dX12_runs_10 (by decide) (by decide) rfl (fun _ => ?_) (fun h => absurd h (by decide))
    refine e_bipush 25 dX12_runs_23 (by decide) rfl ?_
    refine e_iret dX12_runs_25 ?_
    first | exact h2 (by omega) | exact h5 (by omega)

theorem p_runs {M : jM} (hI : Inv M) {q : Int} (hq : -2147483648 ≤ q ∧ q ≤ 2147483647) {what : Int} (hwhat : -2147483648 ≤ what ∧ what ≤ 2147483647) : jCt yX11_runs cX11_runs 7 (some .int) 5 [jR 0, jI q, jI what] M (fun z M1 => jCt yX12_runs cX12_runs 8 (some .int) 3 [jR 928, jI q, jI what] M1 (fun z2 M2 => z = z2 ∧ Inv M2)) := by
  have hC := hI.cr
  refine c_runs hC hq hwhat (fun w => ?_) (fun w => ?_) (fun w => ?_)
  · refine m_runs hC hI.1 hq hwhat (fun w2 => ?_) (fun w2 => ?_) (fun w2 => ?_) <;> first | exact ⟨rfl, hI⟩ | (exfalso; omega)
  · refine m_runs hC hI.1 hq hwhat (fun w2 => ?_) (fun w2 => ?_) (fun w2 => ?_) <;> first | exact ⟨rfl, hI⟩ | (exfalso; omega)
  · refine m_runs hC hI.1 hq hwhat (fun w2 => ?_) (fun w2 => ?_) (fun w2 => ?_) <;> first | exact ⟨rfl, hI⟩ | (exfalso; omega)

