/-! HANDS -/
def dist (a b : Int) : Int := if a < b then b - a else a - b
def rFar (h : Int → Int) (k a b c d e : Int) : Int := dist a (h (3588 + 5 * k)) + dist b (h (3588 + 5 * k + 1)) + dist c (h (3588 + 5 * k + 2)) + dist d (h (3588 + 5 * k + 3)) + dist e (h (3588 + 5 * k + 4))
theorem dist_max (a b : Int) : dist a b = max (a - b) (-(a - b)) := by
  unfold dist
  split <;> omega
theorem dist_rng {a b : Int} (ha : 0 ≤ a ∧ a ≤ 9) (hb : 0 ≤ b ∧ b ≤ 9) : 0 ≤ dist a b ∧ dist a b ≤ 9 := by
  unfold dist
  split <;> omega
theorem m_apart {a b : Int} {M : jM} {Q : Int → jM → Prop} (ha : -2147483648 ≤ a ∧ a ≤ 2147483647) (hb : -2147483648 ≤ b ∧ b ≤ 2147483647) (hr : -2147483647 ≤ a - b ∧ a - b ≤ 2147483647) (h : Q (dist a b) M) : jCt yX12_apart cX12_apart 2 (some .int) 1 [jI a, jI b] M Q := by
  refine jCt_of mt_yX12_apart (Nat.le_of_ble_eq_true rfl) (fun X => ?_)
  refine e_iload_n (i := 0) 1 dX12_apart_0 rfl rfl rfl ?_
  refine e_iload_n (i := 1) 2 dX12_apart_1 rfl rfl rfl ?_
  refine e_icmp_ge 5 11 dX12_apart_2 (by omega) (by omega) (by decide) rfl (fun b2 => ?_) (fun b2 => ?_)
  · skip
    refine e_iload_n (i := 0) 12 dX12_apart_11 rfl rfl rfl ?_
    refine e_iload_n (i := 1) 13 dX12_apart_12 rfl rfl rfl ?_
    refine e_isub 14 dX12_apart_13 rfl ?_
    refine e_iret dX12_apart_14 ?_
    have e : dist a b = _ := if_neg (by omega)
    rw [e] at h
    exact h
  · skip
    refine e_iload_n (i := 1) 6 dX12_apart_5 rfl rfl rfl ?_
    refine e_iload_n (i := 0) 7 dX12_apart_6 rfl rfl rfl ?_
    refine e_isub 8 dX12_apart_7 rfl ?_
    refine e_goto 14 dX12_apart_8 (by decide) ?_
    refine e_iret dX12_apart_14 ?_
    have e : dist a b = _ := if_pos (by omega)
    rw [e] at h
    exact h

theorem dist_abs {a b : Int} : (if a - b < 0 then -(a - b) else a - b) = dist a b := by
  unfold dist
  split <;> split <;> omega
theorem c_farFrom {k a b c d e : Int} {M : jM} {Q : Int → jM → Prop} (hC : CR M) (hk : 0 ≤ k ∧ k < 4) (ha : 0 ≤ a ∧ a ≤ 9) (hb : 0 ≤ b ∧ b ≤ 9) (hc : 0 ≤ c ∧ c ≤ 9) (hd : 0 ≤ d ∧ d ≤ 9) (he : 0 ≤ e ∧ e ≤ 9) (h : Q (rFar (M 929) k a b c d e) M) : jCt yX11_farFrom cX11_farFrom 8 (some .int) 1 [jR 0, jI k, jI a, jI b, jI c, jI d, jI e] M Q := by
  refine jCt_of mt_yX11_farFrom (Nat.le_of_ble_eq_true rfl) (fun X => ?_)
  have g0 := hC.hd (k := k) (j := 0) hk.1 hk.2 (by omega) (by omega)
  have g1 := hC.hd (k := k) (j := 1) hk.1 hk.2 (by omega) (by omega)
  have g2 := hC.hd (k := k) (j := 2) hk.1 hk.2 (by omega) (by omega)
  have g3 := hC.hd (k := k) (j := 3) hk.1 hk.2 (by omega) (by omega)
  have g4 := hC.hd (k := k) (j := 4) hk.1 hk.2 (by omega) (by omega)
  rw [Int.add_zero] at g0
  have f0 : 0 ≤ dist a (M 929 (3588 + 5 * k)) ∧ dist a (M 929 (3588 + 5 * k)) ≤ 9 := dist_rng ha g0.2
  have f1 : 0 ≤ dist b (M 929 (3588 + 5 * k + 1)) ∧ dist b (M 929 (3588 + 5 * k + 1)) ≤ 9 := dist_rng hb g1.2
  have f2 : 0 ≤ dist c (M 929 (3588 + 5 * k + 2)) ∧ dist c (M 929 (3588 + 5 * k + 2)) ≤ 9 := dist_rng hc g2.2
  have f3 : 0 ≤ dist d (M 929 (3588 + 5 * k + 3)) ∧ dist d (M 929 (3588 + 5 * k + 3)) ≤ 9 := dist_rng hd g3.2
  have f4 : 0 ≤ dist e (M 929 (3588 + 5 * k + 4)) ∧ dist e (M 929 (3588 + 5 * k + 4)) ≤ 9 := dist_rng he g4.2
  refine e_aload_n (i := 0) 1 dX11_farFrom_0 rfl rfl rfl ?_
  refine e_getr (j := 0) 4 fl_11_10 dX11_farFrom_1 at_0 rfl rfl tp_0_0 rfl ?_
  refine e_getr (j := 16) 7 fl_11_391 dX11_farFrom_4 at_1 rfl rfl tp_1_16 rfl ?_
  refine e_iload_n (i := 1) 8 dX11_farFrom_7 rfl rfl rfl ?_
  refine e_aaldi 9 dX11_farFrom_8 ar_38 (by omega) (by omega) (tp_handrow (by omega) (by omega)) rfl ?_
  refine e_astore (lsn := [(7, _), (0, _), (1, _), (2, _), (3, _), (4, _), (5, _), (6, _)]) 11 dX11_farFrom_9 (by decide) rfl rfl ?_
  refine e_iload_n (i := 2) 12 dX11_farFrom_11 rfl rfl rfl ?_
  refine e_aload 14 dX11_farFrom_12 rfl rfl ?_
  refine e_iconst 15 dX11_farFrom_14 rfl ?_
  refine e_iald 16 dX11_farFrom_15 (ar_handrow (by omega) (by omega)) (by decide) (by decide) rfl (fun r15 => ?_)
  refine e_isub 17 dX11_farFrom_16 rfl ?_
  refine e_absI 20 wd_1129 dX11_farFrom_17 (by omega) (Nat.le_of_ble_eq_true rfl) (jroom (by decide)) rfl ?_
  refine e_iload_n (i := 3) 21 dX11_farFrom_20 rfl rfl rfl ?_
  refine e_aload 23 dX11_farFrom_21 rfl rfl ?_
  refine e_iconst 24 dX11_farFrom_23 rfl ?_
  refine e_iald 25 dX11_farFrom_24 (ar_handrow (by omega) (by omega)) (by decide) (by decide) rfl (fun r24 => ?_)
  refine e_isub 26 dX11_farFrom_25 rfl ?_
  refine e_absI 29 wd_1129 dX11_farFrom_26 (by omega) (Nat.le_of_ble_eq_true rfl) (jroom (by decide)) rfl ?_
  rw [g0.1, g1.1, dist_abs, dist_abs]
  refine e_iadd 30 dX11_farFrom_29 rfl ?_
  refine e_iload 32 dX11_farFrom_30 rfl rfl ?_
  refine e_aload 34 dX11_farFrom_32 rfl rfl ?_
  refine e_iconst 35 dX11_farFrom_34 rfl ?_
  refine e_iald 36 dX11_farFrom_35 (ar_handrow (by omega) (by omega)) (by decide) (by decide) rfl (fun r35 => ?_)
  refine e_isub 37 dX11_farFrom_36 rfl ?_
  refine e_absI 40 wd_1129 dX11_farFrom_37 (by omega) (Nat.le_of_ble_eq_true rfl) (jroom (by decide)) rfl ?_
  rw [g2.1, dist_abs]
  refine e_iadd 41 dX11_farFrom_40 rfl ?_
  refine e_iload 43 dX11_farFrom_41 rfl rfl ?_
  refine e_aload 45 dX11_farFrom_43 rfl rfl ?_
  refine e_iconst 46 dX11_farFrom_45 rfl ?_
  refine e_iald 47 dX11_farFrom_46 (ar_handrow (by omega) (by omega)) (by decide) (by decide) rfl (fun r46 => ?_)
  refine e_isub 48 dX11_farFrom_47 rfl ?_
  refine e_absI 51 wd_1129 dX11_farFrom_48 (by omega) (Nat.le_of_ble_eq_true rfl) (jroom (by decide)) rfl ?_
  rw [g3.1, dist_abs]
  refine e_iadd 52 dX11_farFrom_51 rfl ?_
  refine e_iload 54 dX11_farFrom_52 rfl rfl ?_
  refine e_aload 56 dX11_farFrom_54 rfl rfl ?_
  refine e_iconst 57 dX11_farFrom_56 rfl ?_
  refine e_iald 58 dX11_farFrom_57 (ar_handrow (by omega) (by omega)) (by decide) (by decide) rfl (fun r57 => ?_)
  refine e_isub 59 dX11_farFrom_58 rfl ?_
  refine e_absI 62 wd_1129 dX11_farFrom_59 (by omega) (Nat.le_of_ble_eq_true rfl) (jroom (by decide)) rfl ?_
  rw [g4.1, dist_abs]
  refine e_iadd 63 dX11_farFrom_62 rfl ?_
  refine e_iret dX11_farFrom_63 ?_
  exact h

