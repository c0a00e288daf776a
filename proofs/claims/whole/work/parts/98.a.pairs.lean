/-! BEST *** the reference: the room *** -/
def RoomU (M Y : jM) (R : Int) : Prop := ∀ q : Int, 0 ≤ q → q < R → Y 936 q = rLeft (M 929) q (M 929 709).toNat
theorem lm_room {X : jX} {M : jM} {Q : Int → jM → Prop} (hC : CR M) {Y0 : jM} {row nn : Int} (hq : ∀ Y : jM, Scr M Y → (∀ k, k ≠ 936 → Y k = Y0 k) → RoomU M Y (M 929 1761) → jE X yX12_findsRacks cX12_findsRacks 9 (some .int) 3 Q Y 31 [(0, jR 928), (1, jI row), (2, jI nn), (3, jI (M 929 1761))] []) : ∀ (k : Nat) (rr : Int), 0 ≤ rr → rr + k = M 929 1761 → ∀ Y : jM, Scr M Y → (∀ k, k ≠ 936 → Y k = Y0 k) → RoomU M Y rr → jE X yX12_findsRacks cX12_findsRacks 9 (some .int) 3 Q Y 2 [(0, jR 928), (1, jI row), (2, jI nn), (3, jI rr)] [] := by
  intro k
  induction k with
  | zero =>
    intro rr a0 hr Y hS hO hU
    have hCY := hS.cr hC
    have e9 := hS.row
    have hn := hCY.cnt
    have hg := hCY.rng
    have e71 : Y 929 3895 = M 929 3895 := by rw [e9]
    have e72 : Y 929 709 = M 929 709 := by rw [e9]
    have e61 : Y 929 1761 = M 929 1761 := by rw [e9]
    have e : rr = M 929 1761 := by omega
    rw [e] at hU
    rw [e]
    refine e_iload_n (i := 3) 3 dX12_findsRacks_2 rfl rfl rfl ?_
    refine e_aload_n (i := 0) 4 dX12_findsRacks_3 rfl rfl rfl ?_
    refine e_getr (j := 1) 7 fl_12_13 dX12_findsRacks_4 at_928 rfl rfl tp_928_1 rfl ?_
    refine e_sipush 10 dX12_findsRacks_7 (by decide) rfl ?_
    refine e_iald 11 dX12_findsRacks_10 ar_929 (by decide) (by decide) rfl (fun r10 => ?_)
    refine e_icmp_ge 14 31 dX12_findsRacks_11 (by omega) (by omega) (by decide) rfl (fun b11 => ?_) (fun b11 => ?_)
    · skip
      exact hq Y hS hO hU
    · omega
  | succ k ih =>
    intro rr a0 hr Y hS hO hU
    have hCY := hS.cr hC
    have e9 := hS.row
    have hn := hCY.cnt
    have hg := hCY.rng
    have e71 : Y 929 3895 = M 929 3895 := by rw [e9]
    have e72 : Y 929 709 = M 929 709 := by rw [e9]
    have e61 : Y 929 1761 = M 929 1761 := by rw [e9]
    have hrl := rLeft_rng hC.1 (r := rr) (by omega) (by omega) (M 929 709).toNat (by omega)
    refine e_iload_n (i := 3) 3 dX12_findsRacks_2 rfl rfl rfl ?_
    refine e_aload_n (i := 0) 4 dX12_findsRacks_3 rfl rfl rfl ?_
    refine e_getr (j := 1) 7 fl_12_13 dX12_findsRacks_4 at_928 rfl rfl tp_928_1 rfl ?_
    refine e_sipush 10 dX12_findsRacks_7 (by decide) rfl ?_
    refine e_iald 11 dX12_findsRacks_10 ar_929 (by decide) (by decide) rfl (fun r10 => ?_)
    refine e_icmp_ge 14 31 dX12_findsRacks_11 (by omega) (by omega) (by decide) rfl (fun b11 => ?_) (fun b11 => ?_)
    · omega
    · skip
      refine e_aload_n (i := 0) 15 dX12_findsRacks_14 rfl rfl rfl ?_
      refine e_getr (j := 21) 18 fl_12_39 dX12_findsRacks_15 at_928 rfl rfl tp_928_21 rfl ?_
      refine e_iload_n (i := 3) 19 dX12_findsRacks_18 rfl rfl rfl ?_
      refine e_aload_n (i := 0) 20 dX12_findsRacks_19 rfl rfl rfl ?_
      refine e_iload_n (i := 3) 21 dX12_findsRacks_20 rfl rfl rfl ?_
      refine e_callV 24 mt_yX12_leftOn mv_yX12_leftOn wd_1645 (by decide) dX12_findsRacks_21 at_928 jc_12 rfl rfl rfl (Nat.le_of_ble_eq_true rfl) (jroom (by decide)) rfl (m_leftOn hCY.1 (by omega) ?_)
      dsimp only [jpush]
      rw [e9]
      refine e_iast 25 dX12_findsRacks_24 ar_936 (by omega) (by omega) (by omega) rfl ?_
      refine e_iinc (lsn := [(3, _), (0, _), (1, _), (2, _)]) 28 dX12_findsRacks_25 rfl (by decide) rfl rfl ?_
      refine e_goto 2 dX12_findsRacks_28 (by decide) ?_
      refine e_ls (ls2 := [(0, _), (1, _), (2, _), (3, _)]) rfl ?_
      refine ih (rr + 1) (by omega) (by omega) _ (hS.set (by omega)) (fun k hk => by rw [row_k hk]; exact hO k hk) (fun q a b => ?_)
      by_cases e : q = rr
      · rw [e, jset_same]
      · rw [jset_j e]
        exact hU q a (by omega)

