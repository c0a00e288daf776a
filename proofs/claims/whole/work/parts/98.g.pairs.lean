/-! BEST *** the reference: the item goes back *** -/
theorem lm_back {X : jX} {M Y : jM} {Q : Int → jM → Prop} {L : List Int} {row nn : Int} {N : Nat} (hB : BF M L row N) (hnn : nn = N) {j : Nat} (hj : j < N) {b sum at5 : Int} (hat : at5 = j) (hb : -1 ≤ b ∧ b ≤ 100000) (hP : (Y 934 j = -1 ∧ Plc M Y L row j sum) ∨ (0 ≤ Y 934 j ∧ Plc M Y L row (j + 1) sum)) (hq : ∀ (Z : jM) (s2 : Int), Plc M Z L row j s2 → Z 934 = Y 934 → Z 935 = Y 935 → jE X yX12_findsRacks cX12_findsRacks 9 (some .int) 3 Q Z 124 [(0, jR 928), (1, jI row), (2, jI nn), (3, jI b), (4, jI s2), (5, jI at5), (6, jI (Y 934 j + 1)), (7, jI (M 948 (40 * row + j)))] []) : jE X yX12_findsRacks cX12_findsRacks 9 (some .int) 3 Q Y 46 [(0, jR 928), (1, jI row), (2, jI nn), (3, jI b), (4, jI sum), (5, jI at5)] [] := by
  subst hat
  have hU : LooseU M Y L := hP.elim (fun q => q.2.1) (fun q => q.2.1)
  have hS := hU.1
  have hC := hB.1
  have hlt : Y 934 j ≤ 10 := by
    have hg := hC.rng
    rcases hP with q | q
    · omega
    · have z := q.2.2.1 j (by omega) (by omega)
      omega
  have hCY := hS.cr hC
  have e9 := hS.row
  have hn := hCY.cnt
  have hg := hCY.rng
  have e71 : Y 929 3895 = M 929 3895 := by rw [e9]
  have e72 : Y 929 709 = M 929 709 := by rw [e9]
  have hN := hB.2.2.1
  have hrow := hB.2.2.2.1
  have e948 : Y 948 = M 948 := funext fun q => hS 948 q (by omega) (by omega)
  have e61 : Y 929 1761 = M 929 1761 := by rw [e9]
  have hit := hB.item hU hj
  have hit0 := hit.1
  have hpr := hCY.plr (p := Y 933 j) hit0.1 (by omega)
  have hsz := hB.sz (j := j) (by omega) (by omega)
  have hitY : Y 929 (583 + Y 929 (710 + Y 933 j)) = bSz M L j := by
    rw [e9]
    exact hit.2
  have hw := hB.2.2.2.2.2 j (by omega) (by omega)
  refine e_iload 48 dX12_findsRacks_46 rfl rfl ?_
  refine e_if_lt 51 315 dX12_findsRacks_48 (by omega) (by decide) rfl (fun b48 => ?_) (fun b48 => ?_)
  · omega
  · skip
    refine e_aload_n (i := 0) 52 dX12_findsRacks_51 rfl rfl rfl ?_
    refine e_getr (j := 19) 55 fl_12_33 dX12_findsRacks_52 at_928 rfl rfl tp_928_19 rfl ?_
    refine e_iload 57 dX12_findsRacks_55 rfl rfl ?_
    refine e_iald 58 dX12_findsRacks_57 ar_934 (by omega) (by omega) rfl (fun r57 => ?_)
    refine e_istore (lsn := [(6, _), (0, _), (1, _), (2, _), (3, _), (4, _), (5, _)]) 60 dX12_findsRacks_58 (by decide) rfl rfl ?_
    refine e_aload_n (i := 0) 61 dX12_findsRacks_60 rfl rfl rfl ?_
    refine e_getr (j := 33) 64 fl_12_75 dX12_findsRacks_61 at_928 rfl rfl tp_928_33 rfl ?_
    refine e_bipush 66 dX12_findsRacks_64 (by decide) rfl ?_
    refine e_iload_n (i := 1) 67 dX12_findsRacks_66 rfl rfl rfl ?_
    refine e_imul 68 dX12_findsRacks_67 rfl ?_
    refine e_iload 70 dX12_findsRacks_68 rfl rfl ?_
    refine e_iadd 71 dX12_findsRacks_70 rfl ?_
    refine e_lald 72 dX12_findsRacks_71 ar_948 (by omega) (by omega) rfl (fun r71 => ?_)
    rw [e948] at r71 ⊢
    refine e_l2i 73 dX12_findsRacks_72 rfl ?_
    refine e_istore (lsn := [(7, _), (6, _), (0, _), (1, _), (2, _), (3, _), (4, _), (5, _)]) 75 dX12_findsRacks_73 (by decide) rfl rfl ?_
    refine e_iload 77 dX12_findsRacks_75 rfl rfl ?_
    refine e_iconst 78 dX12_findsRacks_77 rfl ?_
    refine e_icmp_eq 81 121 dX12_findsRacks_78 (by omega) (by decide) (by decide) rfl (fun b78 => ?_) (fun b78 => ?_)
    · skip
      refine e_iinc (lsn := [(6, _), (7, _), (0, _), (1, _), (2, _), (3, _), (4, _), (5, _)]) 124 dX12_findsRacks_121 rfl (by decide) rfl rfl ?_
      refine e_ls (ls2 := [(0, _), (1, _), (2, _), (3, _), (4, _), (5, _), (6, _), (7, _)]) rfl ?_
      exact hq Y sum (hP.resolve_right (fun q => by omega)).2 rfl rfl
    · skip
      have hP2 := (hP.resolve_left (fun q => b78 q.1)).2
      have hr := (hP2.2.1 j (by omega) (by omega)).1
      have hrm := hP2.room hB (by omega) hr.1 hr.2
      have hsr := hP2.sum_rng hB (by omega)
      have hk9 := hCY.rk (r := Y 934 j) (by omega) (by omega)
      have hk8 := hC.rk hr.1 hr.2
      have hmul := mulB (a := M 948 (40 * row + j)) (b := M 929 (1772 + Y 934 j)) (A := 99) (B := 99) hw hk8.2.2
      refine e_aload_n (i := 0) 82 dX12_findsRacks_81 rfl rfl rfl ?_
      refine e_getr (j := 21) 85 fl_12_39 dX12_findsRacks_82 at_928 rfl rfl tp_928_21 rfl ?_
      refine e_iload 87 dX12_findsRacks_85 rfl rfl ?_
      refine e_dup2 88 dX12_findsRacks_87 rfl rfl rfl ?_
      refine e_iald 89 dX12_findsRacks_88 ar_936 (by omega) (by omega) rfl (fun r88 => ?_)
      refine e_aload_n (i := 0) 90 dX12_findsRacks_89 rfl rfl rfl ?_
      refine e_aload_n (i := 0) 91 dX12_findsRacks_90 rfl rfl rfl ?_
      refine e_getr (j := 18) 94 fl_12_30 dX12_findsRacks_91 at_928 rfl rfl tp_928_18 rfl ?_
      refine e_iload 96 dX12_findsRacks_94 rfl rfl ?_
      refine e_iald 97 dX12_findsRacks_96 ar_933 (by omega) (by omega) rfl (fun r96 => ?_)
      refine e_callV 100 mt_yX12_sizeOf mv_yX12_sizeOf wd_1649 (by decide) dX12_findsRacks_97 at_928 jc_12 rfl rfl rfl (Nat.le_of_ble_eq_true rfl) (jroom (by decide)) rfl (m_sizeOf (by omega) (by omega) ?_)
      dsimp only [jpush]
      refine e_iadd 101 dX12_findsRacks_100 rfl ?_
      refine e_iast 102 dX12_findsRacks_101 ar_936 (by omega) (by omega) (by omega) rfl ?_
      refine e_iload 104 dX12_findsRacks_102 rfl rfl ?_
      refine e_iload 106 dX12_findsRacks_104 rfl rfl ?_
      refine e_aload_n (i := 0) 107 dX12_findsRacks_106 rfl rfl rfl ?_
      refine e_getr (j := 1) 110 fl_12_13 dX12_findsRacks_107 at_928 rfl rfl tp_928_1 rfl ?_
      refine e_sipush 113 dX12_findsRacks_110 (by decide) rfl ?_
      refine e_iload 115 dX12_findsRacks_113 rfl rfl ?_
      refine e_iadd 116 dX12_findsRacks_115 rfl ?_
      refine e_iald 117 dX12_findsRacks_116 ar_929 (by omega) (by omega) rfl (fun r116 => ?_)
      simp (disch := omega) only [jset_k, jset_j, jset_same, true_and, and_true, e9] at r116 ⊢
      refine e_imul 118 dX12_findsRacks_117 rfl ?_
      refine e_isub 119 dX12_findsRacks_118 rfl ?_
      refine e_istore (lsn := [(4, _), (7, _), (6, _), (0, _), (1, _), (2, _), (3, _), (5, _)]) 121 dX12_findsRacks_119 (by decide) rfl rfl ?_
      refine e_iinc (lsn := [(6, _), (4, _), (7, _), (0, _), (1, _), (2, _), (3, _), (5, _)]) 124 dX12_findsRacks_121 rfl (by decide) rfl rfl ?_
      refine e_ls (ls2 := [(0, _), (1, _), (2, _), (3, _), (4, _), (5, _), (6, _), (7, _)]) rfl ?_
      refine hq _ _ (hP2.back (hU.oth (by omega)) (fun i _ _ => by rw [row_k (by omega)]) ?_ (by omega) (fun q e => by rw [jset_j e])) (by rw [row_k (by omega)]) (by rw [row_k (by omega)])
      rw [jset_same, hit.2]

theorem lm_copy {X : jX} {M Y : jM} {Q : Int → jM → Prop} {L : List Int} {row nn : Int} {N : Nat} (hU : LooseU M Y L) (hnn : nn = N) (hN : N ≤ 7) {b sum at5 : Int} (hv : ∀ i : Int, 0 ≤ i → i < N → -2147483648 ≤ Y 934 i ∧ Y 934 i ≤ 2147483647) (hq : ∀ Z : jM, LooseU M Z L → (∀ k, k ≠ 935 → Z k = Y k) → (∀ i : Int, 0 ≤ i → i < N → Z 935 i = Y 934 i) → jE X yX12_findsRacks cX12_findsRacks 9 (some .int) 3 Q Z 46 [(0, jR 928), (1, jI row), (2, jI nn), (3, jI b), (4, jI sum), (5, jI at5)] []) : ∀ (k : Nat) (x : Int), 0 ≤ x → x + k = nn → ∀ Z : jM, LooseU M Z L → (∀ k, k ≠ 935 → Z k = Y k) → (∀ i : Int, 0 ≤ i → i < x → Z 935 i = Y 934 i) → jE X yX12_findsRacks cX12_findsRacks 9 (some .int) 3 Q Z 286 [(0, jR 928), (1, jI row), (2, jI nn), (3, jI b), (4, jI sum), (5, jI at5), (8, jI x)] [] := by
  intro k
  induction k with
  | zero =>
    intro x x0 hx Z hZ hO hX
    refine e_iload 288 dX12_findsRacks_286 rfl rfl ?_
    refine e_iload_n (i := 2) 289 dX12_findsRacks_288 rfl rfl rfl ?_
    refine e_icmp_ge 292 312 dX12_findsRacks_289 (by omega) (by omega) (by decide) rfl (fun b289 => ?_) (fun b289 => ?_)
    · skip
      refine e_goto 46 dX12_findsRacks_312 (by decide) ?_
      refine e_ls (ls2 := [(0, _), (1, _), (2, _), (3, _), (4, _), (5, _)]) rfl ?_
      exact hq Z hZ hO (fun i a b => hX i a (by omega))
    · omega
  | succ k ih =>
    intro x x0 hx Z hZ hO hX
    have e4 : Z 934 = Y 934 := hO 934 (by omega)
    have hvx := hv x x0 (by omega)
    refine e_iload 288 dX12_findsRacks_286 rfl rfl ?_
    refine e_iload_n (i := 2) 289 dX12_findsRacks_288 rfl rfl rfl ?_
    refine e_icmp_ge 292 312 dX12_findsRacks_289 (by omega) (by omega) (by decide) rfl (fun b289 => ?_) (fun b289 => ?_)
    · omega
    · skip
      refine e_aload_n (i := 0) 293 dX12_findsRacks_292 rfl rfl rfl ?_
      refine e_getr (j := 20) 296 fl_12_36 dX12_findsRacks_293 at_928 rfl rfl tp_928_20 rfl ?_
      refine e_iload 298 dX12_findsRacks_296 rfl rfl ?_
      refine e_aload_n (i := 0) 299 dX12_findsRacks_298 rfl rfl rfl ?_
      refine e_getr (j := 19) 302 fl_12_33 dX12_findsRacks_299 at_928 rfl rfl tp_928_19 rfl ?_
      refine e_iload 304 dX12_findsRacks_302 rfl rfl ?_
      refine e_iald 305 dX12_findsRacks_304 ar_934 (by omega) (by omega) rfl (fun r304 => ?_)
      rw [e4] at r304 ⊢
      refine e_iast 306 dX12_findsRacks_305 ar_935 (by omega) (by omega) (by omega) rfl ?_
      refine e_iinc (lsn := [(8, _), (0, _), (1, _), (2, _), (3, _), (4, _), (5, _)]) 309 dX12_findsRacks_306 rfl (by decide) rfl rfl ?_
      refine e_goto 286 dX12_findsRacks_309 (by decide) ?_
      refine e_ls (ls2 := [(0, _), (1, _), (2, _), (3, _), (4, _), (5, _), (8, _)]) rfl ?_
      refine ih _ (by omega) (by omega) _ (hZ.oth (by omega)) (fun k hk => by rw [row_k hk]; exact hO k hk) (fun i a b => ?_)
      by_cases e : i = x
      · rw [e, jset_same]
      · rw [jset_j e]
        exact hX i a (by omega)

