/-! BEST *** the class: placing *** -/
def totS (f : Int → Int) : Nat → Int
  | 0 => 0
  | j + 1 => totS f j + f j
theorem sumS_tot {f g : Int → Int} : ∀ (j S : Nat), (∀ i : Int, 0 ≤ i → i < j → 0 ≤ g i ∧ f i ≤ g i) → sumS f j S ≤ totS g j ∧ 0 ≤ totS g j
  | 0, _, _ => by
    rw [sumS, totS]
    omega
  | j + 1, S, h => by
    have ih := sumS_tot j S (fun i a b => h i a (by omega))
    have q := h j (by omega) (by omega)
    rw [sumS, totS]
    split <;> omega
theorem tot_99 : ∀ j : Fin 9, totS (fun _ => 99) j.val ≤ 800 := by decide +kernel
theorem tot_FIG : ∀ j : Fin 9, totS FIG j.val ≤ 2000000 := by decide +kernel
theorem FIG_pos : ∀ j : Fin 7, 1 ≤ (jzt 5).getD j.val 0 ∧ (jzt 5).getD j.val 0 ≤ 1000000 := by decide +kernel
theorem ItemsB.o {SZ WT FG : Nat → Int} {n : Nat} {Y W : jM} (h : ItemsB SZ WT FG n Y) (o : Oth1 910 Y W) : ItemsB SZ WT FG n W := ⟨h.1, fun S hS => by
  have q := h.2 S hS
  rw [o 906 (by omega), o 907 (by omega), o 908 (by omega)]
  exact q⟩
theorem Oth1.tr {k : Int} {Y W Z : jM} (h : Oth1 k Y W) (h2 : Oth1 k W Z) : Oth1 k Y Z := fun q hq => by rw [h2 q hq, h q hq]
theorem Oth1.scr {Y W M : jM} (h : Oth1 910 Y W) (hS : Scr M Y) : Scr M W := fun k j u v => by
  rw [h k (by omega)]
  exact hS k j u v
theorem sumS_0 {f : Int → Int} : ∀ j : Nat, sumS f j 0 = 0
  | 0 => rfl
  | j + 1 => by
    rw [sumS, if_neg (by rw [Nat.zero_testBit]; decide)]
    exact sumS_0 j
def bestAns (v n i : Int) : Int := if v = 4611686018427387904 ∨ i < -1 ∨ n ≤ i then -1 else if i = -1 then v / 10000000 else v / FIG i % 10
abbrev LBM (a : Int → Int) (Y : jM) (n r S : Nat) (v : Int) : Prop := LB (sumS (Y 904) n) (sumS (Y 905) n) (sumS FIG n) (fun r => rLeft a r (a 709).toNat) (fun r => a (1772 + r)) r S v
theorem l_np {X : jX} {M Y : jM} {Q : Int → jM → Prop} (hC : CR M) (hS : Scr M Y) {n : Nat} {nn i all : Int} (hnn : nn = n) (hn7 : 1 ≤ n ∧ n ≤ 7) (hall : all = ((2 ^ n : Nat) : Int) - 1) (hi : -2147483648 ≤ i ∧ i ≤ 2147483647) (hq : ∀ W : jM, Oth1 910 Y W → (∀ S : Nat, 1 ≤ S → S < 2 ^ n → W 910 S = 4611686018427387904) → jE X yX4_placing cX4_placing 7 (some .int) 4 Q W 38 [(0, jR 903), (1, jR 1), (2, jI nn), (3, jI i), (4, jI all), (5, jI (2 ^ n : Nat))] []) : ∀ k s : Nat, s + k = 2 ^ n → 1 ≤ s → ∀ W : jM, Oth1 910 Y W → (∀ S : Nat, 1 ≤ S → S < s → W 910 S = 4611686018427387904) → ∀ ss : Int, ss = s → jE X yX4_placing cX4_placing 7 (some .int) 4 Q W 15 [(0, jR 903), (1, jR 1), (2, jI nn), (3, jI i), (4, jI all), (5, jI ss)] [] := by
  have hs8 : 2 ^ n ≤ 128 := Nat.pow_le_pow_right (by decide) hn7.2
  intro k
  induction k with
  | zero =>
    intro s hs h1 W hO hW ss hss
    have e : s = 2 ^ n := by omega
    subst e
    rw [hss]
    refine e_iload 17 dX4_placing_15 rfl rfl ?_
    refine e_iload 19 dX4_placing_17 rfl rfl ?_
    refine e_icmp_gt 22 38 dX4_placing_19 (by omega) (by omega) (by decide) rfl (fun b19 => ?_) (fun b19 => ?_)
    · skip
      exact hq W hO hW
    · omega
  | succ k ih =>
    intro s hs h1 W hO hW ss hss
    refine e_iload 17 dX4_placing_15 rfl rfl ?_
    refine e_iload 19 dX4_placing_17 rfl rfl ?_
    refine e_icmp_gt 22 38 dX4_placing_19 (by omega) (by omega) (by decide) rfl (fun b19 => ?_) (fun b19 => ?_)
    · omega
    · skip
      refine e_aload_n (i := 0) 23 dX4_placing_22 rfl rfl rfl ?_
      refine e_getr (j := 7) 26 fl_4_30 dX4_placing_23 at_903 rfl rfl tp_903_7 rfl ?_
      refine e_iload 28 dX4_placing_26 rfl rfl ?_
      refine e_ldc2 (z := (4611686018427387904)) 31 (ix := 112) wd_1000 (by decide) dX4_placing_28 rfl ?_
      refine e_last 32 dX4_placing_31 ar_910 (by omega) (by omega) (by decide) rfl ?_
      refine e_iinc (lsn := [(5, _), (0, _), (1, _), (2, _), (3, _), (4, _)]) 35 dX4_placing_32 rfl (by decide) rfl rfl ?_
      refine e_goto 15 dX4_placing_35 (by decide) ?_
      refine e_ls (ls2 := [(0, _), (1, _), (2, _), (3, _), (4, _), (5, _)]) rfl ?_
      refine ih (s + 1) (by omega) (by omega) _ hO.set (fun S a b => ?_) _ (by omega)
      by_cases e : S = s
      · rw [e, ← hss, jset_same]
      · rw [jset_j (by omega)]
        exact hW S a (by omega)

theorem l_rk {X : jX} {M Y : jM} {Q : Int → jM → Prop} (hC : CR M) (hS : Scr M Y) {n : Nat} {nn i all : Int} (hnn : nn = n) (hn7 : 1 ≤ n ∧ n ≤ 7) (hall : all = ((2 ^ n : Nat) : Int) - 1) (hi : -2147483648 ≤ i ∧ i ≤ 2147483647) (hI : ItemsB (sumS (Y 904) n) (sumS (Y 905) n) (sumS FIG n) n Y) (hq : ∀ W : jM, Oth1 910 Y W → LBM (M 929) Y n (M 929 1761).toNat (2 ^ n - 1) (W 910 (((2 ^ n : Nat) : Int) - 1)) → jE X yX4_placing cX4_placing 7 (some .int) 4 Q W 86 [(0, jR 903), (1, jR 1), (2, jI nn), (3, jI i), (4, jI all), (5, jI (M 929 1761))] []) : ∀ k r : Nat, (r : Int) + k = M 929 1761 → ∀ W : jM, Oth1 910 Y W → (∀ S : Nat, S < 2 ^ n → LBM (M 929) Y n r S (W 910 S)) → ∀ rr : Int, rr = r → jE X yX4_placing cX4_placing 7 (some .int) 4 Q W 48 [(0, jR 903), (1, jR 1), (2, jI nn), (3, jI i), (4, jI all), (5, jI rr)] [] := by
  have hs8 : 2 ^ n ≤ 128 := Nat.pow_le_pow_right (by decide) hn7.2
  have hp1 : 0 < 2 ^ n := Nat.pos_of_ne_zero (by simp)
  intro k
  induction k with
  | zero =>
    intro r hr W hO hL rr hrr
    have hSW := hO.scr hS
    have hCW := hSW.cr hC
    have hn := hCW.cnt
    have e9 := hSW.row
    have e61 : W 929 1761 = M 929 1761 := by rw [e9]
    have hlast := hL (2 ^ n - 1) (by omega)
    rw [show r = (M 929 1761).toNat by omega, show ((2 ^ n - 1 : Nat) : Int) = ((2 ^ n : Nat) : Int) - 1 by omega] at hlast
    rw [show rr = M 929 1761 by omega]
    refine e_iload 50 dX4_placing_48 rfl rfl ?_
    refine e_aload_n (i := 1) 51 dX4_placing_50 rfl rfl rfl ?_
    refine e_geti (j := 14) 54 fl_4_114 dX4_placing_51 at_1 (by decide) rfl rfl (fun r51 => ?_)
    refine e_icmp_ge 57 86 dX4_placing_54 (by omega) (by omega) (by decide) rfl (fun b54 => ?_) (fun b54 => ?_)
    · skip
      exact hq W hO hlast
    · omega
  | succ k ih =>
    intro r hr W hO hL rr hrr
    have hSW := hO.scr hS
    have hCW := hSW.cr hC
    have hn := hCW.cnt
    have hg := hCW.rng
    have e9 := hSW.row
    have e61 : W 929 1761 = M 929 1761 := by rw [e9]
    have hk := hCW.rk (r := rr) (by omega) (by omega)
    have hk1 : W (21 + rr) 1 = M 929 (1772 + rr) := by rw [hk.1.2, e9]
    have hk2 := hk.2.2
    rw [e9] at hk2
    have hIW := hI.o hO
    have hrl := rLeft_rng hC.1 (r := rr) (by omega) (by omega) (M 929 709).toNat (by rw [← e9]; omega)
    have hg9 : 0 ≤ M 929 709 ∧ M 929 709 ≤ 60 := by rw [← e9]; omega
    have hrm : (fun r => rLeft (M 929) r (M 929 709).toNat) (r : Int) = rLeft (M 929) rr (M 929 709).toNat := by rw [hrr]
    have hst : (fun r => M 929 (1772 + r)) (r : Int) = M 929 (1772 + rr) := by rw [hrr]
    refine e_iload 50 dX4_placing_48 rfl rfl ?_
    refine e_aload_n (i := 1) 51 dX4_placing_50 rfl rfl rfl ?_
    refine e_geti (j := 14) 54 fl_4_114 dX4_placing_51 at_1 (by decide) rfl rfl (fun r51 => ?_)
    refine e_icmp_ge 57 86 dX4_placing_54 (by omega) (by omega) (by decide) rfl (fun b54 => ?_) (fun b54 => ?_)
    · omega
    · skip
      refine e_aload_n (i := 0) 58 dX4_placing_57 rfl rfl rfl ?_
      refine e_iload 60 dX4_placing_58 rfl rfl ?_
      refine e_aload_n (i := 1) 61 dX4_placing_60 rfl rfl rfl ?_
      refine e_iload 63 dX4_placing_61 rfl rfl ?_
      refine e_callV 66 mt_yX8_roomLeft mv_yX8_roomLeft wd_1001 (by decide) dX4_placing_63 at_1 jc_8 rfl rfl rfl (Nat.le_of_ble_eq_true rfl) (jroom (by decide)) rfl (c_roomLeft hCW (by omega) ?_)
      dsimp only [jpush]
      rw [e9]
      refine e_aload_n (i := 1) 67 dX4_placing_66 rfl rfl rfl ?_
      refine e_getr (j := 13) 70 fl_4_89 dX4_placing_67 at_1 rfl rfl tp_1_13 rfl ?_
      refine e_iload 72 dX4_placing_70 rfl rfl ?_
      refine e_aaldi 73 dX4_placing_72 ar_20 (by omega) (by omega) (tp_rackrow (by omega) (by omega)) rfl ?_
      refine e_iconst 74 dX4_placing_73 rfl ?_
      refine e_iald 75 dX4_placing_74 (ar_rackrow (by omega) (by omega)) (by decide) (by decide) rfl (fun r74 => ?_)
      rw [hk1]
      refine e_iload 77 dX4_placing_75 rfl rfl ?_
      refine e_callV 80 mt_yX4_placeOn mv_yX4_placeOn wd_1002 (by decide) dX4_placing_77 at_903 jc_4 rfl rfl rfl (Nat.le_of_ble_eq_true rfl) (jroom (by decide)) rfl (c_placeOn hrr (by omega) hrm hst (by omega) (by omega) (by omega) hIW hall hL (fun W277 hO277 hL277 => ?_))
      dsimp only [jpush]
      (try simp (disch := omega) only [jset_k, jset_j, jset_same, true_and, and_true] at W277 hO277 hL277)
      refine e_iinc (lsn := [(5, _), (0, _), (1, _), (2, _), (3, _), (4, _)]) 83 dX4_placing_80 rfl (by decide) rfl rfl ?_
      refine e_goto 48 dX4_placing_83 (by decide) ?_
      refine e_ls (ls2 := [(0, _), (1, _), (2, _), (3, _), (4, _), (5, _)]) rfl ?_
      exact ih (r + 1) (by omega) W277 (hO.tr hO277) hL277 _ (by omega)

