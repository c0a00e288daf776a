/-! TRIPS *** the class *** -/
theorem l_sumS1 {X : jX} {Y : jM} {Q : Int → jM → Prop} {n : Nat} {nn : Int} (hnn : nn = n) (hn8 : n ≤ 8) (hit : ∀ i : Int, 0 ≤ i → i < n → (0 ≤ Y 904 i ∧ Y 904 i ≤ 200000000) ∧ 0 ≤ Y 905 i ∧ Y 905 i ≤ 200000000) (h : ∀ Z : jM, Oth Y Z → SetOk Y Z n (2 ^ n) → Q 0 Z) : ∀ k j : Nat, j + k = n → ∀ Z : jM, Oth Y Z → SetOk Y Z j (2 ^ j) → ∀ jj : Int, jj = j → jE X yX4_sumSets cX4_sumSets 6 none 1 Q Z 30 [(0, jR 903), (1, jI nn), (2, jI jj)] [] := by
  intro k
  induction k with
  | zero =>
    intro j hj Z hO hZ jj hjj
    have e : j = n := by omega
    subst e
    have h := h Z hO hZ
    refine e_iload_n (i := 2) 31 dX4_sumSets_30 rfl rfl rfl ?_
    refine e_iload_n (i := 1) 32 dX4_sumSets_31 rfl rfl rfl ?_
    refine e_icmp_ge 35 171 dX4_sumSets_32 (by omega) (by omega) (by decide) rfl (fun b32 => ?_) (fun b32 => ?_)
    · skip
      refine e_vret dX4_sumSets_171 ?_
      exact h
    · omega
  | succ k ih =>
    intro j hj Z hO hZ jj hjj
    obtain ⟨P, hP⟩ : ∃ P : Nat, 2 ^ j = P := ⟨_, rfl⟩
    have hPl : 1 ≤ P ∧ P ≤ 128 := by
      rw [← hP]
      exact ⟨Nat.pos_of_ne_zero (by simp), Nat.pow_le_pow_right (by decide) (show j ≤ 7 by omega)⟩
    have hsh : jshl 1 jj = (P : Int) := by
      have e := jshl1 ⟨j, by omega⟩
      rw [hjj, ← hP]
      exact e
    have hZ0 : SetOk Y Z (j + 1) (P + 0) := fun S hS => by
      have z := hZ S (by omega)
      rw [sumS_lo (by omega), sumS_lo (by omega), sumS_lo (by omega), mostS_lo (by omega)]
      exact z
    refine e_iload_n (i := 2) 31 dX4_sumSets_30 rfl rfl rfl ?_
    refine e_iload_n (i := 1) 32 dX4_sumSets_31 rfl rfl rfl ?_
    refine e_icmp_ge 35 171 dX4_sumSets_32 (by omega) (by omega) (by decide) rfl (fun b32 => ?_) (fun b32 => ?_)
    · omega
    · skip
      refine e_iconst 36 dX4_sumSets_35 rfl ?_
      refine e_iload_n (i := 2) 37 dX4_sumSets_36 rfl rfl rfl ?_
      refine e_ishl 38 dX4_sumSets_37 rfl ?_
      rw [hsh]
      refine e_istore_n (i := 3) (lsn := [(3, _), (0, _), (1, _), (2, _)]) 39 dX4_sumSets_38 rfl (by decide) rfl rfl ?_
      refine e_iload_n (i := 2) 40 dX4_sumSets_39 rfl rfl rfl ?_
      refine e_gets 43 (i := 5) (by decide) wd_997 dX4_sumSets_40 rfl ?_
      refine e_tlen 44 (i := 5) (z := 7) (by decide) (by decide) dX4_sumSets_43 rfl ?_
      refine e_icmp_ge 47 55 dX4_sumSets_44 (by omega) (by decide) (by decide) rfl (fun b44 => ?_) (fun b44 => ?_)
      · skip
        refine e_iconst 56 dX4_sumSets_55 rfl ?_
        refine e_istore (lsn := [(4, _), (3, _), (0, _), (1, _), (2, _)]) 58 dX4_sumSets_56 (by decide) rfl rfl ?_
        refine e_iload_n (i := 3) 59 dX4_sumSets_58 rfl rfl rfl ?_
        refine e_istore (lsn := [(5, _), (4, _), (3, _), (0, _), (1, _), (2, _)]) 61 dX4_sumSets_59 (by decide) rfl rfl ?_
        refine e_ls (ls2 := [(0, _), (1, _), (2, _), (3, _), (4, _), (5, _)]) rfl ?_
        refine l_sumS2 hnn hjj (by omega) hn8 hP hPl hit (by unfold FIG; rw [if_neg (by omega)]) (fun Z2 hO2 hZ2 => ?_) P 0 (by omega) Z hO hZ0 _ (by omega)
        refine e_iinc (lsn := [(2, _), (0, _), (1, _), (3, _), (4, _), (5, _)]) 168 dX4_sumSets_165 rfl (by decide) rfl rfl ?_
        refine e_goto 30 dX4_sumSets_168 (by decide) ?_
        refine e_ls (ls2 := [(0, _), (1, _), (2, _)]) rfl ?_
        exact ih (j + 1) (by omega) Z2 hO2 hZ2 _ (by omega)
      · skip
        refine e_gets 50 (i := 5) (by decide) wd_997 dX4_sumSets_47 rfl ?_
        refine e_iload_n (i := 2) 51 dX4_sumSets_50 rfl rfl rfl ?_
        refine e_tald 52 (i := 5) (by decide) dX4_sumSets_51 (by omega) (by show jj.toNat < 7; omega) rfl ?_
        refine e_goto 56 dX4_sumSets_52 (by decide) ?_
        refine e_istore (lsn := [(4, _), (3, _), (0, _), (1, _), (2, _)]) 58 dX4_sumSets_56 (by decide) rfl rfl ?_
        refine e_iload_n (i := 3) 59 dX4_sumSets_58 rfl rfl rfl ?_
        refine e_istore (lsn := [(5, _), (4, _), (3, _), (0, _), (1, _), (2, _)]) 61 dX4_sumSets_59 (by decide) rfl rfl ?_
        refine e_ls (ls2 := [(0, _), (1, _), (2, _), (3, _), (4, _), (5, _)]) rfl ?_
        refine l_sumS2 hnn hjj (by omega) hn8 hP hPl hit (by unfold FIG; rw [if_pos (by omega), ← hjj]) (fun Z2 hO2 hZ2 => ?_) P 0 (by omega) Z hO hZ0 _ (by omega)
        refine e_iinc (lsn := [(2, _), (0, _), (1, _), (3, _), (4, _), (5, _)]) 168 dX4_sumSets_165 rfl (by decide) rfl rfl ?_
        refine e_goto 30 dX4_sumSets_168 (by decide) ?_
        refine e_ls (ls2 := [(0, _), (1, _), (2, _)]) rfl ?_
        exact ih (j + 1) (by omega) Z2 hO2 hZ2 _ (by omega)

theorem c_sumSets {Y : jM} {Q : Int → jM → Prop} {n : Nat} {nn : Int} (hnn : nn = n) (hn8 : n ≤ 8) (hit : ∀ i : Int, 0 ≤ i → i < n → (0 ≤ Y 904 i ∧ Y 904 i ≤ 200000000) ∧ 0 ≤ Y 905 i ∧ Y 905 i ≤ 200000000) (h : ∀ Z : jM, Oth Y Z → SetOk Y Z n (2 ^ n) → Q 0 Z) : jCt yX4_sumSets cX4_sumSets 6 none 1 [jR 903, jI nn] Y Q := by
  refine jCt_of mt_yX4_sumSets (Nat.le_of_ble_eq_true rfl) (fun X => ?_)
  refine e_aload_n (i := 0) 1 dX4_sumSets_0 rfl rfl rfl ?_
  refine e_getr (j := 3) 4 fl_4_18 dX4_sumSets_1 at_903 rfl rfl tp_903_3 rfl ?_
  refine e_iconst 5 dX4_sumSets_4 rfl ?_
  refine e_iconst 6 dX4_sumSets_5 rfl ?_
  refine e_iast 7 dX4_sumSets_6 ar_906 (by decide) (by decide) (by decide) rfl ?_
  refine e_aload_n (i := 0) 8 dX4_sumSets_7 rfl rfl rfl ?_
  refine e_getr (j := 4) 11 fl_4_21 dX4_sumSets_8 at_903 rfl rfl tp_903_4 rfl ?_
  refine e_iconst 12 dX4_sumSets_11 rfl ?_
  refine e_iconst 13 dX4_sumSets_12 rfl ?_
  refine e_iast 14 dX4_sumSets_13 ar_907 (by decide) (by decide) (by decide) rfl ?_
  refine e_aload_n (i := 0) 15 dX4_sumSets_14 rfl rfl rfl ?_
  refine e_getr (j := 5) 18 fl_4_24 dX4_sumSets_15 at_903 rfl rfl tp_903_5 rfl ?_
  refine e_iconst 19 dX4_sumSets_18 rfl ?_
  refine e_iconst 20 dX4_sumSets_19 rfl ?_
  refine e_iast 21 dX4_sumSets_20 ar_908 (by decide) (by decide) (by decide) rfl ?_
  refine e_aload_n (i := 0) 22 dX4_sumSets_21 rfl rfl rfl ?_
  refine e_getr (j := 6) 25 fl_4_27 dX4_sumSets_22 at_903 rfl rfl tp_903_6 rfl ?_
  refine e_iconst 26 dX4_sumSets_25 rfl ?_
  refine e_iconst 27 dX4_sumSets_26 rfl ?_
  refine e_iast 28 dX4_sumSets_27 ar_909 (by decide) (by decide) (by decide) rfl ?_
  refine e_iconst 29 dX4_sumSets_28 rfl ?_
  refine e_istore_n (i := 2) (lsn := [(2, _), (0, _), (1, _)]) 30 dX4_sumSets_29 rfl (by decide) rfl rfl ?_
  refine e_ls (ls2 := [(0, _), (1, _), (2, _)]) rfl ?_
  refine l_sumS1 hnn hn8 hit h n 0 (by omega) _ ((((Oth.set (fun _ _ => rfl) (by omega)).set (by omega)).set (by omega)).set (by omega)) (fun S hS => ?_) _ rfl
  have e : S = 0 := by omega
  subst e
  rw [sumS, sumS, sumS, mostS]
  exact ⟨by rw [jset_k (by omega), jset_k (by omega), jset_k (by omega)]; exact jset_same, by rw [jset_k (by omega), jset_k (by omega)]; exact jset_same, by rw [jset_k (by omega)]; exact jset_same, jset_same⟩

