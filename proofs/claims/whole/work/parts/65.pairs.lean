/-! PAIRS: lots *** the ends of lots, the pair -/
def lE (W : Int → Int) (g : Int) (l : Nat) (m : Int) : Nat → Int → Int
  | 0, _ => g
  | n + 1, b => if Dv W g l b ≤ m then b else lE W g l m n (b + 1)
/-- how long the i-th lot is *** r + 1 lots from f on *** lot is the first of them -/
def cL (W : Int → Int) (g m i : Int) : Nat → Int → Int → Int
  | 0, _, _ => -1
  | r + 1, f, lot => if lot = i then lE W g r m (g - f - 1).toNat (f + 1) - f else cL W g m i r (lE W g r m (g - f - 1).toNat (f + 1)) (lot + 1)
theorem lE_rng {W : Int → Int} {g m : Int} {l : Nat} : ∀ (n : Nat) (b : Int), b + n = g → b ≤ lE W g l m n b ∧ lE W g l m n b ≤ g
  | 0, b, h => by
    unfold lE
    omega
  | n + 1, b, h => by
    have ih := lE_rng (W := W) (g := g) (m := m) (l := l) n (b + 1) (by omega)
    unfold lE
    split <;> omega
/-- with a place where the others do, it is found -/
theorem lE_ok {W : Int → Int} {g m : Int} {l : Nat} : ∀ (n : Nat) (b : Int), b + n = g → (∃ c : Int, b ≤ c ∧ c ≤ g ∧ Dv W g l c ≤ m) → Dv W g l (lE W g l m n b) ≤ m
  | 0, b, h, hc => by
    obtain ⟨c, h1, h2, h3⟩ := hc
    unfold lE
    rw [show g = c by omega]
    rw [show c = g by omega] at h3 ⊢
    exact h3
  | n + 1, b, h, hc => by
    obtain ⟨c, h1, h2, h3⟩ := hc
    unfold lE
    split
    · rename_i q
      exact q
    · rename_i q
      refine lE_ok n (b + 1) (by omega) ⟨c, ?_, h2, h3⟩
      by_cases e : c = b
      · subst e
        exact absurd h3 q
      · omega
theorem Dv_ex {W : Int → Int} {g f m : Int} {l : Nat} (hf : f ≤ g) (hm : m < 1073741824) (h : Dv W g (l + 1) f ≤ m) : ∃ c : Int, f + 1 ≤ c ∧ c ≤ g ∧ Dv W g l c ≤ m := by
  rw [Dv_s hm] at h
  obtain ⟨c, h1, h2, -, h4⟩ := h
  exact ⟨f + c, by omega, by omega, h4⟩
theorem l_lotEnd {X : jX} {n fr mo : Int} {l : Nat} {M Y : jM} {Q : Int → jM → Prop} (hn : 1 ≤ n ∧ n ≤ 10) (hC : CR M) (hb : Bse M Y) (ht : ∀ l : Nat, (l : Int) ≤ n → ∀ f, 0 ≤ f → f ≤ gP (M 929) → Y (913 + l) f = Dv (wP (M 929)) (gP (M 929)) l f) (hl : (l : Int) + 1 ≤ n) (hf : 0 ≤ fr ∧ fr ≤ gP (M 929)) (hmo : -2147483648 ≤ mo ∧ mo ≤ 2147483647) : ∀ (r : Nat) (b : Int), fr + 1 ≤ b → (b + r = gP (M 929) ∨ (r = 0 ∧ gP (M 929) ≤ b ∧ b ≤ 11)) → Q (lE (wP (M 929)) (gP (M 929)) l mo r b) Y → jE X yX4_lotEnd cX4_lotEnd 5 (some .int) 1 Q Y 5 [(0, jR 903), (1, jI fr), (2, jI ((l : Int) + 1)), (3, jI mo), (4, jI b)] [] := by
  intro r
  have gr := gP_rng (M 929)
  have eg := hb.2.1
  induction r with
  | zero =>
    intro b h1 h2 h
    rw [lE] at h
    refine e_iload 7 dX4_lotEnd_5 rfl rfl ?_
    refine e_aload_n (i := 0) 8 dX4_lotEnd_7 rfl rfl rfl ?_
    refine e_geti (j := 0) 11 fl_4_55 dX4_lotEnd_8 at_903 (by decide) rfl rfl (fun r8 => ?_)
    refine e_icmp_ge 14 38 dX4_lotEnd_11 (by omega) (by omega) (by decide) rfl (fun b11 => ?_) (fun b11 => ?_)
    · skip
      refine e_aload_n (i := 0) 39 dX4_lotEnd_38 rfl rfl rfl ?_
      refine e_geti (j := 0) 42 fl_4_55 dX4_lotEnd_39 at_903 (by decide) rfl rfl (fun r39 => ?_)
      rw [eg]
      refine e_iret dX4_lotEnd_42 ?_
      exact h
    · omega
  | succ r ih =>
    intro b h1 h2 h
    have hv : Y (913 + ((l : Int) + 1 - 1)) b = Dv (wP (M 929)) (gP (M 929)) l b := by
      rw [show 913 + ((l : Int) + 1 - 1) = 913 + (l : Int) by omega]
      exact ht l (by omega) b (by omega) (by omega)
    have hvr := Dv_rng2 (g := gP (M 929)) (fun k => wP_rng hC k) l b
    rw [lE] at h
    refine e_iload 7 dX4_lotEnd_5 rfl rfl ?_
    refine e_aload_n (i := 0) 8 dX4_lotEnd_7 rfl rfl rfl ?_
    refine e_geti (j := 0) 11 fl_4_55 dX4_lotEnd_8 at_903 (by decide) rfl rfl (fun r8 => ?_)
    refine e_icmp_ge 14 38 dX4_lotEnd_11 (by omega) (by omega) (by decide) rfl (fun b11 => ?_) (fun b11 => ?_)
    · omega
    · skip
      refine e_aload_n (i := 0) 15 dX4_lotEnd_14 rfl rfl rfl ?_
      refine e_getr (j := 9) 18 fl_4_39 dX4_lotEnd_15 at_903 rfl rfl tp_903_9 rfl ?_
      refine e_iload_n (i := 2) 19 dX4_lotEnd_18 rfl rfl rfl ?_
      refine e_iconst 20 dX4_lotEnd_19 rfl ?_
      refine e_isub 21 dX4_lotEnd_20 rfl ?_
      refine e_aaldi 22 dX4_lotEnd_21 ar_912 (by omega) (by omega) (tp_lotrow (by omega) (by omega)) rfl ?_
      refine e_iload 24 dX4_lotEnd_22 rfl rfl ?_
      refine e_iald 25 dX4_lotEnd_24 (ar_lotrow (by omega) (by omega)) (by omega) (by omega) rfl (fun r24 => ?_)
      rw [hv] at r24 ⊢
      refine e_iload_n (i := 3) 26 dX4_lotEnd_25 rfl rfl rfl ?_
      refine e_icmp_gt 29 32 dX4_lotEnd_26 (by omega) (by omega) (by decide) rfl (fun b26 => ?_) (fun b26 => ?_)
      · skip
        refine e_iinc (lsn := [(4, _), (0, _), (1, _), (2, _), (3, _)]) 35 dX4_lotEnd_32 rfl (by decide) rfl rfl ?_
        refine e_goto 5 dX4_lotEnd_35 (by decide) ?_
        refine e_ls (ls2 := [(0, _), (1, _), (2, _), (3, _), (4, _)]) rfl ?_
        rw [if_neg (by omega)] at h
        exact ih _ (by omega) (by omega) h
      · skip
        refine e_iload 31 dX4_lotEnd_29 rfl rfl ?_
        refine e_iret dX4_lotEnd_31 ?_
        rw [if_pos (by omega)] at h
        exact h

theorem c_lotEnd {n fr mo : Int} {l : Nat} {M Y : jM} {Q : Int → jM → Prop} (hn : 1 ≤ n ∧ n ≤ 10) (hC : CR M) (hb : Bse M Y) (ht : ∀ l : Nat, (l : Int) ≤ n → ∀ f, 0 ≤ f → f ≤ gP (M 929) → Y (913 + l) f = Dv (wP (M 929)) (gP (M 929)) l f) (hl : (l : Int) + 1 ≤ n) (hf : 0 ≤ fr ∧ fr ≤ gP (M 929)) (hmo : -2147483648 ≤ mo ∧ mo ≤ 2147483647) (h : Q (lE (wP (M 929)) (gP (M 929)) l mo (gP (M 929) - fr - 1).toNat (fr + 1)) Y) : jCt yX4_lotEnd cX4_lotEnd 5 (some .int) 1 [jR 903, jI fr, jI ((l : Int) + 1), jI mo] Y Q := by
  refine jCt_of mt_yX4_lotEnd (Nat.le_of_ble_eq_true rfl) (fun X => ?_)
  refine e_iload_n (i := 1) 1 dX4_lotEnd_0 rfl rfl rfl ?_
  refine e_iconst 2 dX4_lotEnd_1 rfl ?_
  refine e_iadd 3 dX4_lotEnd_2 rfl ?_
  refine e_istore (lsn := [(4, _), (0, _), (1, _), (2, _), (3, _)]) 5 dX4_lotEnd_3 (by decide) rfl rfl ?_
  refine e_ls (ls2 := [(0, _), (1, _), (2, _), (3, _), (4, _)]) rfl ?_
  have gr := gP_rng (M 929)
  exact l_lotEnd hn hC hb ht hl hf hmo _ _ (by omega) (by omega) h

theorem l_cutLots {X : jX} {n i mo : Int} {M Y : jM} {Q : Int → jM → Prop} (hn : 1 ≤ n ∧ n ≤ 10) (hC : CR M) (hb : Bse M Y) (ht : ∀ l : Nat, (l : Int) ≤ n → ∀ f, 0 ≤ f → f ≤ gP (M 929) → Y (913 + l) f = Dv (wP (M 929)) (gP (M 929)) l f) (hi : -2147483648 ≤ i ∧ i ≤ 2147483647) (hmo : 0 ≤ mo ∧ mo < 1073741824) : ∀ (r : Nat) (fr lot : Int), 0 ≤ lot → lot + r = n → (0 ≤ fr ∧ fr ≤ gP (M 929)) → Q (cL (wP (M 929)) (gP (M 929)) mo i r fr lot) Y → jE X yX4_cutLots cX4_cutLots 7 (some .int) 2 Q Y 27 [(0, jR 903), (1, jI n), (2, jI i), (3, jI mo), (4, jI fr), (5, jI lot)] [] := by
  intro r
  have gr := gP_rng (M 929)
  induction r with
  | zero =>
    intro fr lot h0 h1 hf h
    rw [cL] at h
    refine e_iload 29 dX4_cutLots_27 rfl rfl ?_
    refine e_iload_n (i := 1) 30 dX4_cutLots_29 rfl rfl rfl ?_
    refine e_icmp_ge 33 68 dX4_cutLots_30 (by omega) (by omega) (by decide) rfl (fun b30 => ?_) (fun b30 => ?_)
    · skip
      refine e_iconst 69 dX4_cutLots_68 rfl ?_
      refine e_iret dX4_cutLots_69 ?_
      exact h
    · omega
  | succ r ih =>
    intro fr lot h0 h1 hf h
    have hle : fr + 1 ≤ gP (M 929) → fr + 1 ≤ lE (wP (M 929)) (gP (M 929)) r mo (gP (M 929) - fr - 1).toNat (fr + 1) ∧ lE (wP (M 929)) (gP (M 929)) r mo (gP (M 929) - fr - 1).toNat (fr + 1) ≤ gP (M 929) := fun q => lE_rng _ _ (by omega)
    have hle2 : ¬ fr + 1 ≤ gP (M 929) → lE (wP (M 929)) (gP (M 929)) r mo (gP (M 929) - fr - 1).toNat (fr + 1) = gP (M 929) := fun q => by
      rw [show (gP (M 929) - fr - 1).toNat = 0 by omega]
      rfl
    rw [cL] at h
    refine e_iload 29 dX4_cutLots_27 rfl rfl ?_
    refine e_iload_n (i := 1) 30 dX4_cutLots_29 rfl rfl rfl ?_
    refine e_icmp_ge 33 68 dX4_cutLots_30 (by omega) (by omega) (by decide) rfl (fun b30 => ?_) (fun b30 => ?_)
    · omega
    · skip
      refine e_aload_n (i := 0) 34 dX4_cutLots_33 rfl rfl rfl ?_
      refine e_iload 36 dX4_cutLots_34 rfl rfl ?_
      refine e_iload_n (i := 1) 37 dX4_cutLots_36 rfl rfl rfl ?_
      refine e_iload 39 dX4_cutLots_37 rfl rfl ?_
      refine e_isub 40 dX4_cutLots_39 rfl ?_
      refine e_eqst (st2 := [jI ((r : Int) + 1), jI fr, jR 903]) (by rw [show n - lot = (r : Int) + 1 by omega]) ?_
      refine e_iload_n (i := 3) 41 dX4_cutLots_40 rfl rfl rfl ?_
      refine e_callV 44 mt_yX4_lotEnd mv_yX4_lotEnd wd_1049 (by decide) dX4_cutLots_41 at_903 jc_4 rfl rfl rfl (Nat.le_of_ble_eq_true rfl) (jroom (by decide)) rfl (c_lotEnd (l := r) hn hC hb ht (by omega) (by omega) (by omega) ?_)
      dsimp only [jpush]
      refine e_istore (lsn := [(6, _), (0, _), (1, _), (2, _), (3, _), (4, _), (5, _)]) 46 dX4_cutLots_44 (by decide) rfl rfl ?_
      refine e_iload 48 dX4_cutLots_46 rfl rfl ?_
      refine e_iload_n (i := 2) 49 dX4_cutLots_48 rfl rfl rfl ?_
      refine e_icmp_ne 52 58 dX4_cutLots_49 (by omega) (by omega) (by decide) rfl (fun b49 => ?_) (fun b49 => ?_)
      · skip
        refine e_iload 60 dX4_cutLots_58 rfl rfl ?_
        refine e_istore (lsn := [(4, _), (6, _), (0, _), (1, _), (2, _), (3, _), (5, _)]) 62 dX4_cutLots_60 (by decide) rfl rfl ?_
        refine e_iinc (lsn := [(5, _), (4, _), (6, _), (0, _), (1, _), (2, _), (3, _)]) 65 dX4_cutLots_62 rfl (by decide) rfl rfl ?_
        refine e_goto 27 dX4_cutLots_65 (by decide) ?_
        refine e_ls (ls2 := [(0, _), (1, _), (2, _), (3, _), (4, _), (5, _)]) rfl ?_
        rw [if_neg (by omega)] at h
        exact ih _ _ (by omega) (by omega) (by omega) h
      · skip
        refine e_iload 54 dX4_cutLots_52 rfl rfl ?_
        refine e_iload 56 dX4_cutLots_54 rfl rfl ?_
        refine e_isub 57 dX4_cutLots_56 rfl ?_
        refine e_iret dX4_cutLots_57 ?_
        rw [if_pos (by omega)] at h
        exact h

theorem c_cutLots {n i : Int} {M Y0 : jM} {Q : Int → jM → Prop} (hn : 1 ≤ n ∧ n ≤ 10) (hng : n ≤ gP (M 929)) (hC : CR M) (hb0 : Bse M Y0) (hi : -2147483648 ≤ i ∧ i ≤ 2147483647) (h : ∀ Y : jM, Bse M Y → Q (if i = -1 then Dv (wP (M 929)) (gP (M 929)) n.toNat 0 else cL (wP (M 929)) (gP (M 929)) (Dv (wP (M 929)) (gP (M 929)) n.toNat 0) i n.toNat 0 0) Y) : jCt yX4_cutLots cX4_cutLots 7 (some .int) 2 [jR 903, jI n, jI i] Y0 Q := by
  refine jCt_of mt_yX4_cutLots (Nat.le_of_ble_eq_true rfl) (fun X => ?_)
  have gr := gP_rng (M 929)
  refine e_aload_n (i := 0) 1 dX4_cutLots_0 rfl rfl rfl ?_
  refine e_iload_n (i := 1) 2 dX4_cutLots_1 rfl rfl rfl ?_
  refine e_callV 5 mt_yX4_findLeastLots mv_yX4_findLeastLots wd_1043 (by decide) dX4_cutLots_2 at_903 jc_4 rfl rfl rfl (Nat.le_of_ble_eq_true rfl) (jroom (by decide)) rfl (c_findLL hn hC hb0 (fun Y2 hb2 ht2 => ?_))
  dsimp only [jpush]
  have hv : Y2 (913 + n) 0 = Dv (wP (M 929)) (gP (M 929)) n.toNat 0 := by
    have e := ht2 n.toNat (by omega) 0 (by omega) (by omega)
    rw [show 913 + ((n.toNat : Nat) : Int) = 913 + n by omega] at e
    exact e
  have hdr := Dv_rng2 (g := gP (M 929)) (fun k => wP_rng hC k) n.toNat 0
  have hdt := Dv_top (fun k => wP_rng hC k) (g := gP (M 929)) (by omega) n.toNat 0 (by omega) (by omega) (by omega) (by omega)
  have hws := wSum_rng (fun k => wP_rng hC k) (gP (M 929) - 0).toNat 0
  refine e_aload_n (i := 0) 6 dX4_cutLots_5 rfl rfl rfl ?_
  refine e_getr (j := 9) 9 fl_4_39 dX4_cutLots_6 at_903 rfl rfl tp_903_9 rfl ?_
  refine e_iload_n (i := 1) 10 dX4_cutLots_9 rfl rfl rfl ?_
  refine e_aaldi 11 dX4_cutLots_10 ar_912 (by omega) (by omega) (tp_lotrow (by omega) (by omega)) rfl ?_
  refine e_iconst 12 dX4_cutLots_11 rfl ?_
  refine e_iald 13 dX4_cutLots_12 (ar_lotrow (by omega) (by omega)) (by decide) (by decide) rfl (fun r12 => ?_)
  rw [hv] at r12 ⊢
  refine e_istore_n (i := 3) (lsn := [(3, _), (0, _), (1, _), (2, _)]) 14 dX4_cutLots_13 rfl (by decide) rfl rfl ?_
  refine e_iload_n (i := 2) 15 dX4_cutLots_14 rfl rfl rfl ?_
  refine e_iconst 16 dX4_cutLots_15 rfl ?_
  refine e_icmp_ne 19 21 dX4_cutLots_16 (by omega) (by decide) (by decide) rfl (fun b16 => ?_) (fun b16 => ?_)
  · skip
    refine e_iconst 22 dX4_cutLots_21 rfl ?_
    refine e_istore (lsn := [(4, _), (3, _), (0, _), (1, _), (2, _)]) 24 dX4_cutLots_22 (by decide) rfl rfl ?_
    refine e_iconst 25 dX4_cutLots_24 rfl ?_
    refine e_istore (lsn := [(5, _), (4, _), (3, _), (0, _), (1, _), (2, _)]) 27 dX4_cutLots_25 (by decide) rfl rfl ?_
    refine e_ls (ls2 := [(0, _), (1, _), (2, _), (3, _), (4, _), (5, _)]) rfl ?_
    have h := h Y2 hb2
    rw [if_neg (by omega)] at h
    exact l_cutLots hn hC hb2 ht2 hi (by omega) n.toNat 0 0 (by omega) (by omega) (by omega) h
  · skip
    refine e_iload_n (i := 3) 20 dX4_cutLots_19 rfl rfl rfl ?_
    refine e_iret dX4_cutLots_20 ?_
    have h := h Y2 hb2
    rw [if_pos (by omega)] at h
    exact h

theorem c_lots {n i : Int} {M : jM} {Q : Int → jM → Prop} (hC : CR M) (hnn : -2147483648 ≤ n ∧ n ≤ 2147483647) (hi : -2147483648 ≤ i ∧ i ≤ 2147483647) (h3 : n < 1 ∨ 10 < n → Q (-3) M) (h5 : (1 ≤ n ∧ n ≤ 10) ∧ gP (M 929) < n → ∀ Y : jM, Scr M Y → Q (-5) Y) (h0 : (1 ≤ n ∧ n ≤ 10) ∧ n ≤ gP (M 929) → ∀ Y : jM, Scr M Y → Q (if i = -1 then Dv (wP (M 929)) (gP (M 929)) n.toNat 0 else cL (wP (M 929)) (gP (M 929)) (Dv (wP (M 929)) (gP (M 929)) n.toNat 0) i n.toNat 0 0) Y) : jCt yX11_lots cX11_lots 3 (some .int) 4 [jR 0, jI n, jI i] M Q := by
  refine jCt_of mt_yX11_lots (Nat.le_of_ble_eq_true rfl) (fun X => ?_)
  have gr := gP_rng (M 929)
  refine e_iload_n (i := 1) 1 dX11_lots_0 rfl rfl rfl ?_
  refine e_iconst 2 dX11_lots_1 rfl ?_
  refine e_bipush 4 dX11_lots_2 (by decide) rfl ?_
  refine e_callS 7 mt_yX11_within ms_yX11_within wd_531 (by decide) dX11_lots_4 rfl rfl (Nat.le_of_ble_eq_true rfl) (jroom (by decide)) rfl (c_within (by omega) (by omega) (by omega) (fun w4 => ?_) (fun w4 => ?_))
  · dsimp only [jpush]
    refine e_if_ne 10 13 dX11_lots_7 (by decide) (by decide) rfl (fun _ => ?_) (fun h => absurd h (by decide))
    refine e_aload_n (i := 0) 14 dX11_lots_13 rfl rfl rfl ?_
    refine e_getr (j := 5) 17 fl_11_41 dX11_lots_14 at_0 rfl rfl tp_0_5 rfl ?_
    refine e_aload_n (i := 0) 18 dX11_lots_17 rfl rfl rfl ?_
    refine e_getr (j := 0) 21 fl_11_10 dX11_lots_18 at_0 rfl rfl tp_0_0 rfl ?_
    refine e_callV 24 mt_yX4_gatherPassed mv_yX4_gatherPassed wd_1033 (by decide) dX11_lots_21 at_903 jc_4 rfl rfl rfl (Nat.le_of_ble_eq_true rfl) (jroom (by decide)) rfl (c_gatherP hC (fun Y21 hb21 => ?_))
    dsimp only [jpush]
    refine e_iload_n (i := 1) 25 dX11_lots_24 rfl rfl rfl ?_
    refine e_icmp_ge 28 31 dX11_lots_25 (by omega) (by omega) (by decide) rfl (fun b25 => ?_) (fun b25 => ?_)
    · skip
      refine e_aload_n (i := 0) 32 dX11_lots_31 rfl rfl rfl ?_
      refine e_getr (j := 5) 35 fl_11_41 dX11_lots_32 at_0 rfl rfl tp_0_5 rfl ?_
      refine e_iload_n (i := 1) 36 dX11_lots_35 rfl rfl rfl ?_
      refine e_iload_n (i := 2) 37 dX11_lots_36 rfl rfl rfl ?_
      refine e_callV 40 mt_yX4_cutLots mv_yX4_cutLots wd_1039 (by decide) dX11_lots_37 at_903 jc_4 rfl rfl rfl (Nat.le_of_ble_eq_true rfl) (jroom (by decide)) rfl (c_cutLots (by omega) (by omega) hC hb21 hi (fun Y37 hb37 => ?_))
      dsimp only [jpush]
      refine e_iret dX11_lots_40 ?_
      exact h0 (by omega) _ hb37.1
    · skip
      refine e_bipush 30 dX11_lots_28 (by decide) rfl ?_
      refine e_iret dX11_lots_30 ?_
      exact h5 (by omega) _ hb21.1
  · dsimp only [jpush]
    refine e_if_ne 10 13 dX11_lots_7 (by decide) (by decide) rfl (fun h => absurd h (by decide)) (fun _ => ?_)
    refine e_bipush 12 dX11_lots_10 (by decide) rfl ?_
    refine e_iret dX11_lots_12 ?_
    exact h3 (by omega)

theorem l_lotsDo {X : jX} {g fr left mo : Int} {Wf : Int → Int} {Y : jM} {Q : Int → jM → Prop} (hW : ∀ k, 0 ≤ Wf k ∧ Wf k ≤ 999) (hY : ∀ k, 0 ≤ k → k < g → Y 937 k = Wf k) (hg : 0 ≤ g ∧ g ≤ 10) (hf : 0 ≤ fr ∧ fr ≤ g) (hl : 1 ≤ left ∧ left ≤ 10) (hmo : 0 ≤ mo ∧ mo ≤ 100000) (h1 : ldU Wf mo (g - fr).toNat fr 0 1 ≠ -1 ∧ ldU Wf mo (g - fr).toNat fr 0 1 ≤ left ∧ left ≤ g - fr → Q 1 Y) (h0 : ¬ (ldU Wf mo (g - fr).toNat fr 0 1 ≠ -1 ∧ ldU Wf mo (g - fr).toNat fr 0 1 ≤ left ∧ left ≤ g - fr) → Q 0 Y) : ∀ (r : Nat) (k s u : Int), fr ≤ k → k + r = g → (0 ≤ s ∧ s ≤ 999 * k) → (1 ≤ u ∧ u ≤ k + 1) → ldU Wf mo (g - fr).toNat fr 0 1 = ldU Wf mo r k s u → jE X yX12_lotsDo cX12_lotsDo 8 (some .boolean) 1 Q Y 9 [(0, jR 928), (1, jI fr), (2, jI g), (3, jI left), (4, jI mo), (5, jI s), (6, jI u), (7, jI k)] [] := by
  intro r
  induction r with
  | zero =>
    intro k s u h2 h3 hs hu he
    rw [ldU] at he
    refine e_iload 11 dX12_lotsDo_9 rfl rfl ?_
    refine e_iload_n (i := 2) 12 dX12_lotsDo_11 rfl rfl rfl ?_
    refine e_icmp_ge 15 68 dX12_lotsDo_12 (by omega) (by omega) (by decide) rfl (fun b12 => ?_) (fun b12 => ?_)
    · skip
      refine e_iload 70 dX12_lotsDo_68 rfl rfl ?_
      refine e_iload_n (i := 3) 71 dX12_lotsDo_70 rfl rfl rfl ?_
      refine e_icmp_gt 74 85 dX12_lotsDo_71 (by omega) (by omega) (by decide) rfl (fun b71 => ?_) (fun b71 => ?_)
      · skip
        refine e_iconst 86 dX12_lotsDo_85 rfl ?_
        refine e_zret dX12_lotsDo_86 (by decide) ?_
        first | exact h1 (by omega) | exact h0 (by omega) | (exfalso; omega)
      · skip
        refine e_iload_n (i := 2) 75 dX12_lotsDo_74 rfl rfl rfl ?_
        refine e_iload_n (i := 1) 76 dX12_lotsDo_75 rfl rfl rfl ?_
        refine e_isub 77 dX12_lotsDo_76 rfl ?_
        refine e_iload_n (i := 3) 78 dX12_lotsDo_77 rfl rfl rfl ?_
        refine e_icmp_lt 81 85 dX12_lotsDo_78 (by omega) (by omega) (by decide) rfl (fun b78 => ?_) (fun b78 => ?_)
        · skip
          refine e_iconst 86 dX12_lotsDo_85 rfl ?_
          refine e_zret dX12_lotsDo_86 (by decide) ?_
          first | exact h1 (by omega) | exact h0 (by omega) | (exfalso; omega)
        · skip
          refine e_iconst 82 dX12_lotsDo_81 rfl ?_
          refine e_goto 86 dX12_lotsDo_82 (by decide) ?_
          refine e_zret dX12_lotsDo_86 (by decide) ?_
          first | exact h1 (by omega) | exact h0 (by omega) | (exfalso; omega)
    · omega
  | succ r ih =>
    intro k s u h2 h3 hs hu he
    have hk := hY k (by omega) (by omega)
    have hw := hW k
    rw [ldU] at he
    refine e_iload 11 dX12_lotsDo_9 rfl rfl ?_
    refine e_iload_n (i := 2) 12 dX12_lotsDo_11 rfl rfl rfl ?_
    refine e_icmp_ge 15 68 dX12_lotsDo_12 (by omega) (by omega) (by decide) rfl (fun b12 => ?_) (fun b12 => ?_)
    · omega
    · skip
      refine e_aload_n (i := 0) 16 dX12_lotsDo_15 rfl rfl rfl ?_
      refine e_getr (j := 22) 19 fl_12_42 dX12_lotsDo_16 at_928 rfl rfl tp_928_22 rfl ?_
      refine e_iload 21 dX12_lotsDo_19 rfl rfl ?_
      refine e_iald 22 dX12_lotsDo_21 ar_937 (by omega) (by omega) rfl (fun r21 => ?_)
      rw [hk] at r21 ⊢
      refine e_iload 24 dX12_lotsDo_22 rfl rfl ?_
      refine e_icmp_le 27 29 dX12_lotsDo_24 (by omega) (by omega) (by decide) rfl (fun b24 => ?_) (fun b24 => ?_)
      · skip
        refine e_iload 31 dX12_lotsDo_29 rfl rfl ?_
        refine e_aload_n (i := 0) 32 dX12_lotsDo_31 rfl rfl rfl ?_
        refine e_getr (j := 22) 35 fl_12_42 dX12_lotsDo_32 at_928 rfl rfl tp_928_22 rfl ?_
        refine e_iload 37 dX12_lotsDo_35 rfl rfl ?_
        refine e_iald 38 dX12_lotsDo_37 ar_937 (by omega) (by omega) rfl (fun r37 => ?_)
        rw [hk] at r37 ⊢
        refine e_iadd 39 dX12_lotsDo_38 rfl ?_
        refine e_iload 41 dX12_lotsDo_39 rfl rfl ?_
        refine e_icmp_le 44 50 dX12_lotsDo_41 (by omega) (by omega) (by decide) rfl (fun b41 => ?_) (fun b41 => ?_)
        · skip
          refine e_iload 52 dX12_lotsDo_50 rfl rfl ?_
          refine e_aload_n (i := 0) 53 dX12_lotsDo_52 rfl rfl rfl ?_
          refine e_getr (j := 22) 56 fl_12_42 dX12_lotsDo_53 at_928 rfl rfl tp_928_22 rfl ?_
          refine e_iload 58 dX12_lotsDo_56 rfl rfl ?_
          refine e_iald 59 dX12_lotsDo_58 ar_937 (by omega) (by omega) rfl (fun r58 => ?_)
          rw [hk] at r58 ⊢
          refine e_iadd 60 dX12_lotsDo_59 rfl ?_
          refine e_istore (lsn := [(5, _), (0, _), (1, _), (2, _), (3, _), (4, _), (6, _), (7, _)]) 62 dX12_lotsDo_60 (by decide) rfl rfl ?_
          refine e_iinc (lsn := [(7, _), (5, _), (0, _), (1, _), (2, _), (3, _), (4, _), (6, _)]) 65 dX12_lotsDo_62 rfl (by decide) rfl rfl ?_
          refine e_goto 9 dX12_lotsDo_65 (by decide) ?_
          refine e_ls (ls2 := [(0, _), (1, _), (2, _), (3, _), (4, _), (5, _), (6, _), (7, _)]) rfl ?_
          rw [if_neg (by omega), if_neg (by omega)] at he
          exact ih _ _ _ (by omega) (by omega) (by omega) (by omega) he
        · skip
          refine e_iinc (lsn := [(6, _), (0, _), (1, _), (2, _), (3, _), (4, _), (5, _), (7, _)]) 47 dX12_lotsDo_44 rfl (by decide) rfl rfl ?_
          refine e_iconst 48 dX12_lotsDo_47 rfl ?_
          refine e_istore (lsn := [(5, _), (6, _), (0, _), (1, _), (2, _), (3, _), (4, _), (7, _)]) 50 dX12_lotsDo_48 (by decide) rfl rfl ?_
          refine e_iload 52 dX12_lotsDo_50 rfl rfl ?_
          refine e_aload_n (i := 0) 53 dX12_lotsDo_52 rfl rfl rfl ?_
          refine e_getr (j := 22) 56 fl_12_42 dX12_lotsDo_53 at_928 rfl rfl tp_928_22 rfl ?_
          refine e_iload 58 dX12_lotsDo_56 rfl rfl ?_
          refine e_iald 59 dX12_lotsDo_58 ar_937 (by omega) (by omega) rfl (fun r58 => ?_)
          rw [hk] at r58 ⊢
          refine e_iadd 60 dX12_lotsDo_59 rfl ?_
          refine e_istore (lsn := [(5, _), (6, _), (0, _), (1, _), (2, _), (3, _), (4, _), (7, _)]) 62 dX12_lotsDo_60 (by decide) rfl rfl ?_
          refine e_iinc (lsn := [(7, _), (5, _), (6, _), (0, _), (1, _), (2, _), (3, _), (4, _)]) 65 dX12_lotsDo_62 rfl (by decide) rfl rfl ?_
          refine e_goto 9 dX12_lotsDo_65 (by decide) ?_
          refine e_ls (ls2 := [(0, _), (1, _), (2, _), (3, _), (4, _), (5, _), (6, _), (7, _)]) rfl ?_
          rw [if_neg (by omega), if_pos (by omega)] at he
          rw [Int.zero_add]
          exact ih _ _ _ (by omega) (by omega) (by omega) (by omega) he
      · skip
        refine e_iconst 28 dX12_lotsDo_27 rfl ?_
        refine e_zret dX12_lotsDo_28 (by decide) ?_
        rw [if_pos (by omega)] at he
        exact h0 (by omega)

theorem m_lotsDo {g fr left mo : Int} {Wf : Int → Int} {Y : jM} {Q : Int → jM → Prop} (hW : ∀ k, 0 ≤ Wf k ∧ Wf k ≤ 999) (hY : ∀ k, 0 ≤ k → k < g → Y 937 k = Wf k) (hg : 0 ≤ g ∧ g ≤ 10) (hf : 0 ≤ fr ∧ fr ≤ g) (hl : 1 ≤ left ∧ left ≤ 10) (hmo : 0 ≤ mo ∧ mo ≤ 100000) (h1 : ldU Wf mo (g - fr).toNat fr 0 1 ≠ -1 ∧ ldU Wf mo (g - fr).toNat fr 0 1 ≤ left ∧ left ≤ g - fr → Q 1 Y) (h0 : ¬ (ldU Wf mo (g - fr).toNat fr 0 1 ≠ -1 ∧ ldU Wf mo (g - fr).toNat fr 0 1 ≤ left ∧ left ≤ g - fr) → Q 0 Y) : jCt yX12_lotsDo cX12_lotsDo 8 (some .boolean) 1 [jR 928, jI fr, jI g, jI left, jI mo] Y Q := by
  refine jCt_of mt_yX12_lotsDo (Nat.le_of_ble_eq_true rfl) (fun X => ?_)
  refine e_iconst 1 dX12_lotsDo_0 rfl ?_
  refine e_istore (lsn := [(5, _), (0, _), (1, _), (2, _), (3, _), (4, _)]) 3 dX12_lotsDo_1 (by decide) rfl rfl ?_
  refine e_iconst 4 dX12_lotsDo_3 rfl ?_
  refine e_istore (lsn := [(6, _), (5, _), (0, _), (1, _), (2, _), (3, _), (4, _)]) 6 dX12_lotsDo_4 (by decide) rfl rfl ?_
  refine e_iload_n (i := 1) 7 dX12_lotsDo_6 rfl rfl rfl ?_
  refine e_istore (lsn := [(7, _), (6, _), (5, _), (0, _), (1, _), (2, _), (3, _), (4, _)]) 9 dX12_lotsDo_7 (by decide) rfl rfl ?_
  refine e_ls (ls2 := [(0, _), (1, _), (2, _), (3, _), (4, _), (5, _), (6, _), (7, _)]) rfl ?_
  exact l_lotsDo hW hY hg hf hl hmo h1 h0 (g - fr).toNat fr 0 1 (by omega) (by omega) (by omega) (by omega) rfl

def RB (M Y : jM) : Prop := Scr M Y ∧ ∀ k, 0 ≤ k → k < gP (M 929) → Y 937 k = wP (M 929) k
theorem lm_gatherP {X : jX} {n i : Int} {M : jM} {Q : Int → jM → Prop} (hC : CR M) (hk : ∀ (Y : jM) (p : Int), RB M Y → jE X yX12_lots cX12_lots 8 (some .int) 4 Q Y 77 [(0, jR 928), (1, jI n), (2, jI i), (3, jI (gP (M 929))), (4, jI p)] []) : ∀ r i0 : Nat, (i0 : Int) + r = M 929 709 → ∀ (Y : jM) (s ii : Int), ii = i0 → s = min 10 ((passL (M 929) i0).length : Int) → RP M Y (passL (M 929) i0) → jE X yX12_lots cX12_lots 8 (some .int) 4 Q Y 25 [(0, jR 928), (1, jI n), (2, jI i), (3, jI s), (4, jI ii)] [] := by
  intro r
  have hgM := hC.rng
  induction r with
  | zero =>
    intro i0 hi Y s ii hii hs hG
    have hCY := hG.1.cr hC
    have hn := hCY.cnt
    have hg := hCY.rng
    have e9 := hG.1.row
    have e9a : Y 929 709 = M 929 709 := by rw [e9]
    subst hii
    have e0 : i0 = (M 929 709).toNat := by omega
    have e1 : passL (M 929) (M 929 709).toNat = passL (M 929) i0 := by rw [← e0]
    have e2 : ((passL (M 929) (M 929 709).toNat).length : Int) = ((passL (M 929) i0).length : Int) := by rw [e1]
    refine e_iload 27 dX12_lots_25 rfl rfl ?_
    refine e_aload_n (i := 0) 28 dX12_lots_27 rfl rfl rfl ?_
    refine e_getr (j := 1) 31 fl_12_13 dX12_lots_28 at_928 rfl rfl tp_928_1 rfl ?_
    refine e_sipush 34 dX12_lots_31 (by decide) rfl ?_
    refine e_iald 35 dX12_lots_34 ar_929 (by decide) (by decide) rfl (fun r34 => ?_)
    refine e_icmp_ge 38 77 dX12_lots_35 (by omega) (by omega) (by decide) rfl (fun b35 => ?_) (fun b35 => ?_)
    · skip
      have hpre := passL_pre (a := M 929) (i := i0) (M 929 709).toNat (by omega)
      have egp : s = gP (M 929) := by
        unfold gP
        omega
      have hRB : RB M Y := ⟨hG.1, fun k a b => by
        have e := hG.2 k.toNat (by omega) (by omega)
        rw [show ((k.toNat : Nat) : Int) = k by omega] at e
        unfold wP
        rw [if_pos ⟨a, b⟩, e, hpre.2 _ (by omega)]⟩
      rw [egp]
      exact hk Y _ hRB
    · omega
  | succ r ih =>
    intro i0 hi Y s ii hii hs hG
    have hCY := hG.1.cr hC
    have hn := hCY.cnt
    have hg := hCY.rng
    have e9 := hG.1.row
    have e9a : Y 929 709 = M 929 709 := by rw [e9]
    subst hii
    refine e_iload 27 dX12_lots_25 rfl rfl ?_
    refine e_aload_n (i := 0) 28 dX12_lots_27 rfl rfl rfl ?_
    refine e_getr (j := 1) 31 fl_12_13 dX12_lots_28 at_928 rfl rfl tp_928_1 rfl ?_
    refine e_sipush 34 dX12_lots_31 (by decide) rfl ?_
    refine e_iald 35 dX12_lots_34 ar_929 (by decide) (by decide) rfl (fun r34 => ?_)
    refine e_icmp_ge 38 77 dX12_lots_35 (by omega) (by omega) (by decide) rfl (fun b35 => ?_) (fun b35 => ?_)
    · omega
    · skip
      refine e_iload_n (i := 3) 39 dX12_lots_38 rfl rfl rfl ?_
      refine e_bipush 41 dX12_lots_39 (by decide) rfl ?_
      refine e_icmp_ge 44 77 dX12_lots_41 (by omega) (by decide) (by decide) rfl (fun b41 => ?_) (fun b41 => ?_)
      · skip
        have hpre := passL_pre (a := M 929) (i := i0) (M 929 709).toNat (by omega)
        have egp : s = gP (M 929) := by
          unfold gP
          omega
        have hRB : RB M Y := ⟨hG.1, fun k a b => by
          have e := hG.2 k.toNat (by omega) (by omega)
          rw [show ((k.toNat : Nat) : Int) = k by omega] at e
          unfold wP
          rw [if_pos ⟨a, b⟩, e, hpre.2 _ (by omega)]⟩
        rw [egp]
        exact hk Y _ hRB
      · skip
        have hml := mlow_rng hCY (p := (i0 : Int)) (by omega) (by omega)
        change 0 ≤ rMoth (Y 929) i0 (Y 929 (595 + Y 929 (710 + (i0 : Int)))) ∧ rMoth (Y 929) i0 (Y 929 (595 + Y 929 (710 + (i0 : Int)))) ≤ 999 at hml
        have hpr := hCY.plr (p := (i0 : Int)) (by omega) (by omega)
        refine e_aload_n (i := 0) 45 dX12_lots_44 rfl rfl rfl ?_
        refine e_iload 47 dX12_lots_45 rfl rfl ?_
        refine e_callV 50 mt_yX12_isPassed mv_yX12_isPassed wd_1603 (by decide) dX12_lots_47 at_928 jc_12 rfl rfl rfl (Nat.le_of_ble_eq_true rfl) (jroom (by decide)) rfl (m_isPassed (by omega) (by omega) (fun w47 => ?_) (fun w47 => ?_))
        · dsimp only [jpush]
          refine e_if_ne 53 56 dX12_lots_50 (by decide) (by decide) rfl (fun _ => ?_) (fun h => absurd h (by decide))
          refine e_aload_n (i := 0) 57 dX12_lots_56 rfl rfl rfl ?_
          refine e_getr (j := 22) 60 fl_12_42 dX12_lots_57 at_928 rfl rfl tp_928_22 rfl ?_
          refine e_iload_n (i := 3) 61 dX12_lots_60 rfl rfl rfl ?_
          refine e_aload_n (i := 0) 62 dX12_lots_61 rfl rfl rfl ?_
          refine e_iload 64 dX12_lots_62 rfl rfl ?_
          refine e_callV 67 mt_yX12_mothedLow mv_yX12_mothedLow wd_1591 (by decide) dX12_lots_64 at_928 jc_12 rfl rfl rfl (Nat.le_of_ble_eq_true rfl) (jroom (by decide)) rfl (m_mothedLow (hCY.1.okM (by omega) (by omega)) (hCY.1.low (by omega) (by omega)) ?_)
          dsimp only [jpush]
          refine e_iast 68 dX12_lots_67 ar_937 (by omega) (by omega) (by omega) rfl ?_
          refine e_iinc (lsn := [(3, _), (0, _), (1, _), (2, _), (4, _)]) 71 dX12_lots_68 rfl (by decide) rfl rfl ?_
          refine e_iinc (lsn := [(4, _), (3, _), (0, _), (1, _), (2, _)]) 74 dX12_lots_71 rfl (by decide) rfl rfl ?_
          refine e_goto 25 dX12_lots_74 (by decide) ?_
          refine e_ls (ls2 := [(0, _), (1, _), (2, _), (3, _), (4, _)]) rfl ?_
          have hon : passL (M 929) (i0 + 1) = passL (M 929) i0 ++ [(i0 : Int)] := by rw [passL, if_pos (by rw [← e9]; exact w47)]
          refine ih (i0 + 1) (by omega) _ _ _ (by omega) ?_ ?_
          · rw [hon, List.length_append]
            show _ = min 10 (((passL (M 929) i0).length + 1 : Nat) : Int)
            omega
          · rw [hon]
            refine ⟨hG.1.set (by omega), fun k hk1 hk2 => ?_⟩
            rw [List.length_append] at hk2
            change k < (passL (M 929) i0).length + 1 at hk2
            by_cases e : k = (passL (M 929) i0).length
            · subst e
              rw [getD_app_len, show s = ((passL (M 929) i0).length : Int) by omega, jset_same, e9]
              rfl
            · rw [getD_app (by omega), jset_j (by omega)]
              exact hG.2 k hk1 (by omega)
        · dsimp only [jpush]
          refine e_if_ne 53 56 dX12_lots_50 (by decide) (by decide) rfl (fun h => absurd h (by decide)) (fun _ => ?_)
          refine e_goto 71 dX12_lots_53 (by decide) ?_
          refine e_iinc (lsn := [(4, _), (0, _), (1, _), (2, _), (3, _)]) 74 dX12_lots_71 rfl (by decide) rfl rfl ?_
          refine e_goto 25 dX12_lots_74 (by decide) ?_
          refine e_ls (ls2 := [(0, _), (1, _), (2, _), (3, _), (4, _)]) rfl ?_
          refine ih (i0 + 1) (by omega) Y _ _ (by omega) ?_ ?_
          · rw [passL, if_neg (by rw [← e9]; exact w47)]
            exact hs
          · rw [passL, if_neg (by rw [← e9]; exact w47)]
            exact hG

theorem lm_least {X : jX} {n i : Int} {M Y : jM} {Q : Int → jM → Prop} (hn : 1 ≤ n ∧ n ≤ 10) (hng : n ≤ gP (M 929)) (hi : -2147483648 ≤ i ∧ i ≤ 2147483647) (hW : ∀ k, 0 ≤ wP (M 929) k ∧ wP (M 929) k ≤ 999) (hY : RB M Y) (hD : Dv (wP (M 929)) (gP (M 929)) n.toNat 0 ≤ 10000) (hk : jE X yX12_lots cX12_lots 8 (some .int) 4 Q Y 106 [(0, jR 928), (1, jI n), (2, jI i), (3, jI (gP (M 929))), (4, jI (Dv (wP (M 929)) (gP (M 929)) n.toNat 0))] []) : ∀ (r : Nat) (mo : Int), 0 ≤ mo → mo + r = Dv (wP (M 929)) (gP (M 929)) n.toNat 0 → jE X yX12_lots cX12_lots 8 (some .int) 4 Q Y 88 [(0, jR 928), (1, jI n), (2, jI i), (3, jI (gP (M 929))), (4, jI mo)] [] := by
  intro r
  have gr := gP_rng (M 929)
  induction r with
  | zero =>
    intro mo h0 h1
    have e : mo = Dv (wP (M 929)) (gP (M 929)) n.toNat 0 := by omega
    have hld := lots_do (f := 0) (l := n.toNat) hW h0 (show mo < 1073741824 by omega) gr.1 (by omega)
    have hyes := hld.mp (by omega)
    rw [show ((n.toNat : Nat) : Int) = n by omega] at hyes
    refine e_aload_n (i := 0) 89 dX12_lots_88 rfl rfl rfl ?_
    refine e_iconst 90 dX12_lots_89 rfl ?_
    refine e_iload_n (i := 3) 91 dX12_lots_90 rfl rfl rfl ?_
    refine e_iload_n (i := 1) 92 dX12_lots_91 rfl rfl rfl ?_
    refine e_iload 94 dX12_lots_92 rfl rfl ?_
    refine e_callV 97 mt_yX12_lotsDo mv_yX12_lotsDo wd_1692 (by decide) dX12_lots_94 at_928 jc_12 rfl rfl rfl (Nat.le_of_ble_eq_true rfl) (jroom (by decide)) rfl (m_lotsDo (Wf := wP (M 929)) hW hY.2 gr (by omega) (by omega) (by omega) (fun w94 => ?_) (fun w94 => ?_))
    · dsimp only [jpush]
      refine e_if_ne 100 106 dX12_lots_97 (by decide) (by decide) rfl (fun _ => ?_) (fun h => absurd h (by decide))
      rw [e]
      exact hk
    · exact absurd hyes w94
  | succ r ih =>
    intro mo h0 h1
    have hld := lots_do (f := 0) (l := n.toNat) hW h0 (show mo < 1073741824 by omega) gr.1 (by omega)
    have hno : ¬ Dv (wP (M 929)) (gP (M 929)) n.toNat 0 ≤ mo := by omega
    rw [hld, show ((n.toNat : Nat) : Int) = n by omega] at hno
    refine e_aload_n (i := 0) 89 dX12_lots_88 rfl rfl rfl ?_
    refine e_iconst 90 dX12_lots_89 rfl ?_
    refine e_iload_n (i := 3) 91 dX12_lots_90 rfl rfl rfl ?_
    refine e_iload_n (i := 1) 92 dX12_lots_91 rfl rfl rfl ?_
    refine e_iload 94 dX12_lots_92 rfl rfl ?_
    refine e_callV 97 mt_yX12_lotsDo mv_yX12_lotsDo wd_1692 (by decide) dX12_lots_94 at_928 jc_12 rfl rfl rfl (Nat.le_of_ble_eq_true rfl) (jroom (by decide)) rfl (m_lotsDo (Wf := wP (M 929)) hW hY.2 gr (by omega) (by omega) (by omega) (fun w94 => ?_) (fun w94 => ?_))
    · exact absurd w94 hno
    · dsimp only [jpush]
      refine e_if_ne 100 106 dX12_lots_97 (by decide) (by decide) rfl (fun h => absurd h (by decide)) (fun _ => ?_)
      refine e_iinc (lsn := [(4, _), (0, _), (1, _), (2, _), (3, _)]) 103 dX12_lots_100 rfl (by decide) rfl rfl ?_
      refine e_goto 88 dX12_lots_103 (by decide) ?_
      refine e_ls (ls2 := [(0, _), (1, _), (2, _), (3, _), (4, _)]) rfl ?_
      exact ih _ (by omega) (by omega)

theorem lm_end {X : jX} {n i : Int} {M Y : jM} {Q : Int → jM → Prop} (hn : 1 ≤ n ∧ n ≤ 10) (hng : n ≤ gP (M 929)) (hi : -2147483648 ≤ i ∧ i ≤ 2147483647) (hW : ∀ k, 0 ≤ wP (M 929) k ∧ wP (M 929) k ≤ 999) (hY : RB M Y) {mo : Int} (hmo : 0 ≤ mo ∧ mo ≤ 10000) {fr lot : Int} {q : Nat} (hfr : 0 ≤ fr) (hlot : 0 ≤ lot ∧ lot + (q + 1 : Nat) + 1 = n) {v : Int} (hk : jE X yX12_lots cX12_lots 8 (some .int) 4 Q Y 179 [(0, jR 928), (1, jI n), (2, jI i), (3, jI (gP (M 929))), (4, jI mo), (5, jI fr), (6, jI lot), (7, jI (v - fr))] []) : ∀ (r : Nat) (len : Int), 1 ≤ len → fr + len + r = gP (M 929) → (∃ c : Int, fr + len ≤ c ∧ c ≤ gP (M 929) ∧ Dv (wP (M 929)) (gP (M 929)) (q + 1) c ≤ mo) → v = lE (wP (M 929)) (gP (M 929)) (q + 1) mo r (fr + len) → jE X yX12_lots cX12_lots 8 (some .int) 4 Q Y 144 [(0, jR 928), (1, jI n), (2, jI i), (3, jI (gP (M 929))), (4, jI mo), (5, jI fr), (6, jI lot), (7, jI len)] [] := by
  intro r
  have gr := gP_rng (M 929)
  induction r with
  | zero =>
    intro len h0 h1 hc hv
    obtain ⟨c, c1, c2, c3⟩ := hc
    have ec : c = gP (M 929) := by omega
    rw [ec, Dv_s (by omega)] at c3
    obtain ⟨z, z1, z2, -⟩ := c3
    omega
  | succ r ih =>
    intro len h0 h1 hc hv
    have hld := lots_do (f := fr + len) (l := q + 1) hW hmo.1 (show mo < 1073741824 by omega) (show fr + len ≤ gP (M 929) by omega) (by omega)
    rw [show ((q + 1 : Nat) : Int) = n - 1 - lot by omega] at hld
    rw [lE] at hv
    refine e_iload 146 dX12_lots_144 rfl rfl ?_
    refine e_iload_n (i := 1) 147 dX12_lots_146 rfl rfl rfl ?_
    refine e_iconst 148 dX12_lots_147 rfl ?_
    refine e_isub 149 dX12_lots_148 rfl ?_
    refine e_icmp_ge 152 179 dX12_lots_149 (by omega) (by omega) (by decide) rfl (fun b149 => ?_) (fun b149 => ?_)
    · omega
    · skip
      refine e_aload_n (i := 0) 153 dX12_lots_152 rfl rfl rfl ?_
      refine e_iload 155 dX12_lots_153 rfl rfl ?_
      refine e_iload 157 dX12_lots_155 rfl rfl ?_
      refine e_iadd 158 dX12_lots_157 rfl ?_
      refine e_iload_n (i := 3) 159 dX12_lots_158 rfl rfl rfl ?_
      refine e_iload_n (i := 1) 160 dX12_lots_159 rfl rfl rfl ?_
      refine e_iconst 161 dX12_lots_160 rfl ?_
      refine e_isub 162 dX12_lots_161 rfl ?_
      refine e_iload 164 dX12_lots_162 rfl rfl ?_
      refine e_isub 165 dX12_lots_164 rfl ?_
      refine e_iload 167 dX12_lots_165 rfl rfl ?_
      refine e_callV 170 mt_yX12_lotsDo mv_yX12_lotsDo wd_1692 (by decide) dX12_lots_167 at_928 jc_12 rfl rfl rfl (Nat.le_of_ble_eq_true rfl) (jroom (by decide)) rfl (m_lotsDo (Wf := wP (M 929)) hW hY.2 gr (by omega) (by omega) (by omega) (fun w167 => ?_) (fun w167 => ?_))
      · dsimp only [jpush]
        refine e_if_ne 173 179 dX12_lots_170 (by decide) (by decide) rfl (fun _ => ?_) (fun h => absurd h (by decide))
        rw [if_pos (hld.mpr w167)] at hv
        rw [show len = v - fr by omega]
        exact hk
      · dsimp only [jpush]
        refine e_if_ne 173 179 dX12_lots_170 (by decide) (by decide) rfl (fun h => absurd h (by decide)) (fun _ => ?_)
        refine e_iinc (lsn := [(7, _), (0, _), (1, _), (2, _), (3, _), (4, _), (5, _), (6, _)]) 176 dX12_lots_173 rfl (by decide) rfl rfl ?_
        refine e_goto 144 dX12_lots_176 (by decide) ?_
        refine e_ls (ls2 := [(0, _), (1, _), (2, _), (3, _), (4, _), (5, _), (6, _), (7, _)]) rfl ?_
        have hn2 : ¬ Dv (wP (M 929)) (gP (M 929)) (q + 1) (fr + len) ≤ mo := fun z => w167 (hld.mp z)
        rw [if_neg hn2] at hv
        obtain ⟨c, c1, c2, c3⟩ := hc
        refine ih (len + 1) (by omega) (by omega) ⟨c, ?_, c2, c3⟩ ?_
        · by_cases e : c = fr + len
          · rw [e] at c3
            exact absurd c3 hn2
          · omega
        · rw [hv, show fr + len + 1 = fr + (len + 1) by omega]

theorem lm_cut {X : jX} {n i : Int} {M Y : jM} {Q : Int → jM → Prop} (hn : 1 ≤ n ∧ n ≤ 10) (hng : n ≤ gP (M 929)) (hi : -2147483648 ≤ i ∧ i ≤ 2147483647) (hW : ∀ k, 0 ≤ wP (M 929) k ∧ wP (M 929) k ≤ 999) (hY : RB M Y) {mo : Int} (hmo : 0 ≤ mo ∧ mo ≤ 10000) : ∀ (r : Nat) (fr lot : Int), 0 ≤ lot → lot + r = n → (0 ≤ fr ∧ fr ≤ gP (M 929)) → Dv (wP (M 929)) (gP (M 929)) r fr ≤ mo → Q (cL (wP (M 929)) (gP (M 929)) mo i r fr lot) Y → jE X yX12_lots cX12_lots 8 (some .int) 4 Q Y 120 [(0, jR 928), (1, jI n), (2, jI i), (3, jI (gP (M 929))), (4, jI mo), (5, jI fr), (6, jI lot)] [] := by
  intro r
  have gr := gP_rng (M 929)
  induction r with
  | zero =>
    intro fr lot h0 h1 hf hd h
    rw [cL] at h
    refine e_iload 122 dX12_lots_120 rfl rfl ?_
    refine e_iload_n (i := 1) 123 dX12_lots_122 rfl rfl rfl ?_
    refine e_icmp_ge 126 201 dX12_lots_123 (by omega) (by omega) (by decide) rfl (fun b123 => ?_) (fun b123 => ?_)
    · skip
      refine e_iconst 202 dX12_lots_201 rfl ?_
      refine e_iret dX12_lots_202 ?_
      exact h
    · omega
  | succ r ih =>
    intro fr lot h0 h1 hf hd h
    have hex := Dv_ex hf.2 (show mo < 1073741824 by omega) hd
    have hlr : fr + 1 ≤ gP (M 929) := by
      obtain ⟨c, c1, c2, -⟩ := hex
      omega
    have hle := lE_rng (W := wP (M 929)) (g := gP (M 929)) (l := r) (m := mo) (gP (M 929) - fr - 1).toNat (fr + 1) (by omega)
    have hok := lE_ok (W := wP (M 929)) (g := gP (M 929)) (l := r) (m := mo) (gP (M 929) - fr - 1).toNat (fr + 1) (by omega) hex
    rw [cL] at h
    generalize hv : lE (wP (M 929)) (gP (M 929)) r mo (gP (M 929) - fr - 1).toNat (fr + 1) = v at h hle hok
    have tail : jE X yX12_lots cX12_lots 8 (some .int) 4 Q Y 179 [(0, jR 928), (1, jI n), (2, jI i), (3, jI (gP (M 929))), (4, jI mo), (5, jI fr), (6, jI lot), (7, jI (v - fr))] [] := by
      refine e_iload 181 dX12_lots_179 rfl rfl ?_
      refine e_iload_n (i := 2) 182 dX12_lots_181 rfl rfl rfl ?_
      refine e_icmp_ne 185 188 dX12_lots_182 (by omega) (by omega) (by decide) rfl (fun b182 => ?_) (fun b182 => ?_)
      · skip
        refine e_iload 190 dX12_lots_188 rfl rfl ?_
        refine e_iload 192 dX12_lots_190 rfl rfl ?_
        refine e_iadd 193 dX12_lots_192 rfl ?_
        refine e_istore (lsn := [(5, _), (0, _), (1, _), (2, _), (3, _), (4, _), (6, _), (7, _)]) 195 dX12_lots_193 (by decide) rfl rfl ?_
        refine e_iinc (lsn := [(6, _), (5, _), (0, _), (1, _), (2, _), (3, _), (4, _), (7, _)]) 198 dX12_lots_195 rfl (by decide) rfl rfl ?_
        refine e_goto 120 dX12_lots_198 (by decide) ?_
        refine e_ls (ls2 := [(0, _), (1, _), (2, _), (3, _), (4, _), (5, _), (6, _)]) rfl ?_
        rw [if_neg (by omega)] at h
        rw [show fr + (v - fr) = v by omega]
        exact ih _ _ (by omega) (by omega) (by omega) hok h
      · skip
        refine e_iload 187 dX12_lots_185 rfl rfl ?_
        refine e_iret dX12_lots_187 ?_
        rw [if_pos (by omega)] at h
        exact h
    refine e_iload 122 dX12_lots_120 rfl rfl ?_
    refine e_iload_n (i := 1) 123 dX12_lots_122 rfl rfl rfl ?_
    refine e_icmp_ge 126 201 dX12_lots_123 (by omega) (by omega) (by decide) rfl (fun b123 => ?_) (fun b123 => ?_)
    · omega
    · skip
      refine e_iload 128 dX12_lots_126 rfl rfl ?_
      refine e_iload_n (i := 1) 129 dX12_lots_128 rfl rfl rfl ?_
      refine e_iconst 130 dX12_lots_129 rfl ?_
      refine e_isub 131 dX12_lots_130 rfl ?_
      refine e_icmp_ne 134 141 dX12_lots_131 (by omega) (by omega) (by decide) rfl (fun b131 => ?_) (fun b131 => ?_)
      · skip
        refine e_iconst 142 dX12_lots_141 rfl ?_
        refine e_istore (lsn := [(7, _), (0, _), (1, _), (2, _), (3, _), (4, _), (5, _), (6, _)]) 144 dX12_lots_142 (by decide) rfl rfl ?_
        refine e_ls (ls2 := [(0, _), (1, _), (2, _), (3, _), (4, _), (5, _), (6, _), (7, _)]) rfl ?_
        obtain ⟨q, rfl⟩ : ∃ q, r = q + 1 := ⟨r - 1, by omega⟩
        exact lm_end hn hng hi hW hY hmo hf.1 (by omega) tail (gP (M 929) - fr - 1).toNat 1 (by omega) (by omega) hex hv.symm
      · skip
        refine e_iload_n (i := 3) 135 dX12_lots_134 rfl rfl rfl ?_
        refine e_iload 137 dX12_lots_135 rfl rfl ?_
        refine e_isub 138 dX12_lots_137 rfl ?_
        refine e_goto 142 dX12_lots_138 (by decide) ?_
        refine e_istore (lsn := [(7, _), (0, _), (1, _), (2, _), (3, _), (4, _), (5, _), (6, _)]) 144 dX12_lots_142 (by decide) rfl rfl ?_
        refine e_ls (ls2 := [(0, _), (1, _), (2, _), (3, _), (4, _), (5, _), (6, _), (7, _)]) rfl ?_
        have er : r = 0 := by omega
        subst er
        have ev : v = gP (M 929) := by
          rw [Dv_0 hmo.1 (by omega)] at hok
          exact hok
        refine e_iload 146 dX12_lots_144 rfl rfl ?_
        refine e_iload_n (i := 1) 147 dX12_lots_146 rfl rfl rfl ?_
        refine e_iconst 148 dX12_lots_147 rfl ?_
        refine e_isub 149 dX12_lots_148 rfl ?_
        refine e_icmp_ge 152 179 dX12_lots_149 (by omega) (by omega) (by decide) rfl (fun b149 => ?_) (fun b149 => ?_)
        · skip
          rw [ev] at tail
          exact tail
        · omega

theorem m_lots {n i : Int} {M : jM} {Q : Int → jM → Prop} (hC : CR M) (ht : M 928 0 = 0) (hnn : -2147483648 ≤ n ∧ n ≤ 2147483647) (hi : -2147483648 ≤ i ∧ i ≤ 2147483647) (h3 : n < 1 ∨ 10 < n → Q (-3) M) (h5 : (1 ≤ n ∧ n ≤ 10) ∧ gP (M 929) < n → ∀ Y : jM, Scr M Y → Q (-5) Y) (h0 : (1 ≤ n ∧ n ≤ 10) ∧ n ≤ gP (M 929) → ∀ Y : jM, Scr M Y → Q (if i = -1 then Dv (wP (M 929)) (gP (M 929)) n.toNat 0 else cL (wP (M 929)) (gP (M 929)) (Dv (wP (M 929)) (gP (M 929)) n.toNat 0) i n.toNat 0 0) Y) : jCt yX12_lots cX12_lots 8 (some .int) 4 [jR 928, jI n, jI i] M Q := by
  refine jCt_of mt_yX12_lots (Nat.le_of_ble_eq_true rfl) (fun X => ?_)
  have gr := gP_rng (M 929)
  have hg := hC.rng
  have hW := fun k => wP_rng hC k
  refine e_aload_n (i := 0) 1 dX12_lots_0 rfl rfl rfl ?_
  refine e_iconst 2 dX12_lots_1 rfl ?_
  refine e_put0 (j := 0) 5 fl_12_1 dX12_lots_2 at_928 rfl rfl rfl (by decide) ht rfl ?_
  refine e_iload_n (i := 1) 6 dX12_lots_5 rfl rfl rfl ?_
  refine e_i2l 7 dX12_lots_6 (by omega) rfl ?_
  refine e_lconst1 8 dX12_lots_7 rfl ?_
  refine e_ldc2 (z := (10)) 11 (ix := 286) wd_1636 (by decide) dX12_lots_8 rfl ?_
  refine e_callS 14 mt_yX12_within ms_yX12_within wd_1390 (by decide) dX12_lots_11 rfl rfl (Nat.le_of_ble_eq_true rfl) (jroom (by decide)) rfl (m_within (by omega) (by omega) (by omega) (fun w11 => ?_) (fun w11 => ?_))
  · dsimp only [jpush]
    refine e_if_ne 17 20 dX12_lots_14 (by decide) (by decide) rfl (fun _ => ?_) (fun h => absurd h (by decide))
    refine e_iconst 21 dX12_lots_20 rfl ?_
    refine e_istore_n (i := 3) (lsn := [(3, _), (0, _), (1, _), (2, _)]) 22 dX12_lots_21 rfl (by decide) rfl rfl ?_
    refine e_iconst 23 dX12_lots_22 rfl ?_
    refine e_istore (lsn := [(4, _), (3, _), (0, _), (1, _), (2, _)]) 25 dX12_lots_23 (by decide) rfl rfl ?_
    refine e_ls (ls2 := [(0, _), (1, _), (2, _), (3, _), (4, _)]) rfl ?_
    refine lm_gatherP hC (fun Y p hRB => ?_) (M 929 709).toNat 0 (by omega) M _ _ rfl rfl ⟨Scr.rf, fun k a b => absurd b (Nat.not_lt_zero k)⟩
    refine e_iload_n (i := 3) 78 dX12_lots_77 rfl rfl rfl ?_
    refine e_iload_n (i := 1) 79 dX12_lots_78 rfl rfl rfl ?_
    refine e_icmp_ge 82 85 dX12_lots_79 (by omega) (by omega) (by decide) rfl (fun b79 => ?_) (fun b79 => ?_)
    · skip
      refine e_iconst 86 dX12_lots_85 rfl ?_
      refine e_istore (lsn := [(4, _), (0, _), (1, _), (2, _), (3, _)]) 88 dX12_lots_86 (by decide) rfl rfl ?_
      refine e_ls (ls2 := [(0, _), (1, _), (2, _), (3, _), (4, _)]) rfl ?_
      have hdt := Dv_top hW (g := gP (M 929)) (by omega) n.toNat 0 (by omega) (by omega) (by omega) (by omega)
      have hws := wSum_rng hW (gP (M 929) - 0).toNat 0
      have hdr := Dv_rng2 hW (g := gP (M 929)) n.toNat 0
      have hv := h0 (by omega) Y hRB.1
      refine lm_least (by omega) (by omega) hi hW hRB (by omega) ?_ (Dv (wP (M 929)) (gP (M 929)) n.toNat 0).toNat 0 (by omega) (by omega)
      refine e_iload_n (i := 2) 107 dX12_lots_106 rfl rfl rfl ?_
      refine e_iconst 108 dX12_lots_107 rfl ?_
      refine e_icmp_ne 111 114 dX12_lots_108 (by omega) (by decide) (by decide) rfl (fun b108 => ?_) (fun b108 => ?_)
      · skip
        refine e_iconst 115 dX12_lots_114 rfl ?_
        refine e_istore (lsn := [(5, _), (0, _), (1, _), (2, _), (3, _), (4, _)]) 117 dX12_lots_115 (by decide) rfl rfl ?_
        refine e_iconst 118 dX12_lots_117 rfl ?_
        refine e_istore (lsn := [(6, _), (5, _), (0, _), (1, _), (2, _), (3, _), (4, _)]) 120 dX12_lots_118 (by decide) rfl rfl ?_
        refine e_ls (ls2 := [(0, _), (1, _), (2, _), (3, _), (4, _), (5, _), (6, _)]) rfl ?_
        rw [if_neg (by omega)] at hv
        exact lm_cut (by omega) (by omega) hi hW hRB (by omega) n.toNat 0 0 (by omega) (by omega) (by omega) (Int.le_refl _) hv
      · skip
        refine e_iload 113 dX12_lots_111 rfl rfl ?_
        refine e_iret dX12_lots_113 ?_
        rw [if_pos (by omega)] at hv
        exact hv
    · skip
      refine e_bipush 84 dX12_lots_82 (by decide) rfl ?_
      refine e_iret dX12_lots_84 ?_
      first | exact h5 (by omega) _ hRB.1 | (exfalso; omega)
  · dsimp only [jpush]
    refine e_if_ne 17 20 dX12_lots_14 (by decide) (by decide) rfl (fun h => absurd h (by decide)) (fun _ => ?_)
    refine e_bipush 19 dX12_lots_17 (by decide) rfl ?_
    refine e_iret dX12_lots_19 ?_
    exact h3 (by omega)

theorem p_lots {M : jM} (hI : Inv M) {n : Int} (hn : -2147483648 ≤ n ∧ n ≤ 2147483647) {i : Int} (hi : -2147483648 ≤ i ∧ i ≤ 2147483647) : jCt yX11_lots cX11_lots 3 (some .int) 4 [jR 0, jI n, jI i] M (fun z M1 => jCt yX12_lots cX12_lots 8 (some .int) 4 [jR 928, jI n, jI i] M1 (fun z2 M2 => z = z2 ∧ Inv M2)) := by
  have hC := hI.cr
  refine c_lots hC hn hi (fun w => ?_) (fun w Y hY => ?_) (fun w Y hY => ?_)
  · exact m_lots hC hI.1 hn hi (fun _ => ⟨rfl, hI⟩) (fun w2 => by omega) (fun w2 => by omega)
  · have hIY := hI.scr hY
    have e9 := hY.row
    refine m_lots hIY.cr hIY.1 hn hi (fun w2 => by omega) (fun w2 Y2 h2 => ⟨rfl, hIY.scr h2⟩) (fun w2 => ?_)
    rw [e9] at w2
    omega
  · have hIY := hI.scr hY
    have e9 := hY.row
    refine m_lots hIY.cr hIY.1 hn hi (fun w2 => by omega) (fun w2 => ?_) (fun w2 Y2 h2 => ?_)
    · rw [e9] at w2
      omega
    · rw [e9]
      exact ⟨rfl, hIY.scr h2⟩

