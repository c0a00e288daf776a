/-! MATCHED *** the class, whole *** the search, in words *** -/
def MSt (M Y : jM) (t : Int) : Prop := Scr M Y ∧ (∀ u, 0 ≤ u → u < t → Y 925 u = gM (M 929) u) ∧ (∀ u, 0 ≤ u → u < t → (gM (M 929) u ≠ -1 ∧ Y 926 u = 1) ∨ (gM (M 929) u = -1 ∧ Y 926 u = 0)) ∧ ∀ p, 0 ≤ p → p < M 929 709 → ((∃ s, 0 ≤ s ∧ s < t ∧ gM (M 929) s = p) ∧ Y 927 p = 1) ∨ ((¬ ∃ s, 0 ≤ s ∧ s < t ∧ gM (M 929) s = p) ∧ Y 927 p = 0)
theorem l_matching {X : jX} {i : Int} {M : jM} {Q : Int → jM → Prop} (hC : CR M) (hi : -2147483648 ≤ i ∧ i ≤ 2147483647) (hir : i = -1 ∨ (0 ≤ i ∧ i < M 929 3895)) (h : ∀ Y : jM, Scr M Y → Q (if i = -1 then (cP (fun u => gM (M 929) u ≠ -1) (M 929 3895).toNat : Nat) else gM (M 929) i) Y) : ∀ n i0 : Nat, (i0 : Int) + n = M 929 3895 → ∀ (Y : jM) (c ii : Int), ii = i0 → c = (cP (fun u => gM (M 929) u ≠ -1) i0 : Nat) → MSt M Y ii → jE X yX4_matching cX4_matching 5 (some .int) 4 Q Y 26 [(0, jR 903), (1, jR 1), (2, jI i), (3, jI c), (4, jI ii)] [] := by
  intro n
  induction n with
  | zero =>
    intro i0 hi0 Y c ii hii hc hM
    have hCY := hM.1.cr hC
    have e9 := hM.1.row
    have hn := hCY.cnt
    have hg := hCY.rng
    have e71 : Y 929 3895 = M 929 3895 := by rw [e9]
    have e72 : Y 929 709 = M 929 709 := by rw [e9]
    have e : (M 929 3895).toNat = i0 := by omega
    have h := h Y hM.1
    rw [e, ← hc] at h
    refine e_iload 28 dX4_matching_26 rfl rfl ?_
    refine e_aload_n (i := 1) 29 dX4_matching_28 rfl rfl rfl ?_
    refine e_geti (j := 19) 32 fl_4_171 dX4_matching_29 at_1 (by decide) rfl rfl (fun r29 => ?_)
    refine e_icmp_ge 35 91 dX4_matching_32 (by omega) (by omega) (by decide) rfl (fun b32 => ?_) (fun b32 => ?_)
    · skip
      refine e_iload_n (i := 2) 92 dX4_matching_91 rfl rfl rfl ?_
      refine e_iconst 93 dX4_matching_92 rfl ?_
      refine e_icmp_ne 96 100 dX4_matching_93 (by omega) (by decide) (by decide) rfl (fun b93 => ?_) (fun b93 => ?_)
      · skip
        refine e_aload_n (i := 0) 101 dX4_matching_100 rfl rfl rfl ?_
        refine e_getr (j := 11) 104 fl_4_45 dX4_matching_101 at_903 rfl rfl tp_903_11 rfl ?_
        refine e_iload_n (i := 2) 105 dX4_matching_104 rfl rfl rfl ?_
        refine e_iald 106 dX4_matching_105 ar_925 (by omega) (by omega) rfl (fun r105 => ?_)
        rw [hM.2.1 i (by omega) (by omega)]
        refine e_iret dX4_matching_106 ?_
        rw [if_neg (by omega)] at h
        exact h
      · skip
        refine e_iload_n (i := 3) 97 dX4_matching_96 rfl rfl rfl ?_
        refine e_goto 106 dX4_matching_97 (by decide) ?_
        refine e_iret dX4_matching_106 ?_
        rw [if_pos (by omega)] at h
        exact h
    · omega
  | succ n ih =>
    intro i0 hi0 Y c ii hii hc hM
    have hCY := hM.1.cr hC
    have e9 := hM.1.row
    have hn := hCY.cnt
    have hg := hCY.rng
    have e71 : Y 929 3895 = M 929 3895 := by rw [e9]
    have e72 : Y 929 709 = M 929 709 := by rw [e9]
    refine e_iload 28 dX4_matching_26 rfl rfl ?_
    refine e_aload_n (i := 1) 29 dX4_matching_28 rfl rfl rfl ?_
    refine e_geti (j := 19) 32 fl_4_171 dX4_matching_29 at_1 (by decide) rfl rfl (fun r29 => ?_)
    refine e_icmp_ge 35 91 dX4_matching_32 (by omega) (by omega) (by decide) rfl (fun b32 => ?_) (fun b32 => ?_)
    · omega
    · first
       | (exfalso; omega)
       | (skip
          refine e_aload_n (i := 0) 36 dX4_matching_35 rfl rfl rfl ?_
          refine e_getr (j := 11) 39 fl_4_45 dX4_matching_36 at_903 rfl rfl tp_903_11 rfl ?_
          refine e_iload 41 dX4_matching_39 rfl rfl ?_
          refine e_iconst 42 dX4_matching_41 rfl ?_
          refine e_iast 43 dX4_matching_42 ar_925 (by omega) (by omega) (by decide) rfl ?_
          refine e_aload_n (i := 0) 44 dX4_matching_43 rfl rfl rfl ?_
          refine e_getr (j := 12) 47 fl_4_48 dX4_matching_44 at_903 rfl rfl tp_903_12 rfl ?_
          refine e_iload 49 dX4_matching_47 rfl rfl ?_
          refine e_iconst 50 dX4_matching_49 rfl ?_
          refine e_zast 51 dX4_matching_50 ar_926 (by omega) (by omega) (by decide) rfl ?_
          have hS := hM.1
          have hS2 : Scr M (jset (jset Y 925 ii (-1)) 926 ii 1) := (hS.set (by omega)).set (by omega)
          have hm2 : ∀ u, 0 ≤ u → u ≤ ii → ((u = ii ∨ gM (M 929) u ≠ -1) ∧ jset (jset Y 925 ii (-1)) 926 ii 1 926 u = 1) ∨ (¬ (u = ii ∨ gM (M 929) u ≠ -1) ∧ jset (jset Y 925 ii (-1)) 926 ii 1 926 u = 0) := fun u a b => by
            by_cases e : u = ii
            · rw [e, jset_same]
              exact Or.inl ⟨Or.inl rfl, rfl⟩
            · rw [jset_j e, jset_k (by omega)]
              rcases hM.2.2.1 u a (by omega) with q | q
              · exact Or.inl ⟨Or.inr q.1, q.2⟩
              · exact Or.inr ⟨fun z => z.elim e (fun z => z q.1), q.2⟩
          refine e_aload_n (i := 0) 52 dX4_matching_51 rfl rfl rfl ?_
          refine e_getr (j := 12) 55 fl_4_48 dX4_matching_52 at_903 rfl rfl tp_903_12 rfl ?_
          refine e_iload 57 dX4_matching_55 rfl rfl ?_
          refine e_aload_n (i := 0) 58 dX4_matching_57 rfl rfl rfl ?_
          refine e_aload_n (i := 1) 59 dX4_matching_58 rfl rfl rfl ?_
          refine e_iload 61 dX4_matching_59 rfl rfl ?_
          refine e_callV 64 mt_yX4_isRoomTo mv_yX4_isRoomTo wd_1177 (by decide) dX4_matching_61 at_903 jc_4 rfl rfl rfl (Nat.le_of_ble_eq_true rfl) (jroom (by decide)) rfl (c_room hC hS2 (by omega) hm2 (fun w61 => ?_) (fun w61 => ?_))
          · dsimp only [jpush]
            (try simp (disch := omega) only [jset_k, jset_j, jset_same, true_and, and_true] at w61)
            first
             | (exfalso; omega)
             | (skip
                refine e_zast 65 dX4_matching_64 ar_926 (by omega) (by omega) (by decide) rfl ?_
                refine e_aload_n (i := 0) 66 dX4_matching_65 rfl rfl rfl ?_
                refine e_getr (j := 12) 69 fl_4_48 dX4_matching_66 at_903 rfl rfl tp_903_12 rfl ?_
                refine e_iload 71 dX4_matching_69 rfl rfl ?_
                refine e_zald 72 dX4_matching_71 ar_926 (by omega) (by omega) rfl (fun r71 => ?_)
                simp (disch := omega) only [jset_k, jset_j, jset_same, true_and, and_true] at r71 ⊢
                refine e_if_eq 75 85 dX4_matching_72 (by omega) (by decide) rfl (fun b72 => ?_) (fun b72 => ?_)
                · first
                   | (exfalso; omega)
                   | (skip
                      refine e_iinc (lsn := [(4, _), (0, _), (1, _), (2, _), (3, _)]) 88 dX4_matching_85 rfl (by decide) rfl rfl ?_
                      refine e_goto 26 dX4_matching_88 (by decide) ?_
                      refine e_ls (ls2 := [(0, _), (1, _), (2, _), (3, _), (4, _)]) rfl ?_
                      first
                        | (exfalso; omega)
                        | (refine ih (i0 + 1) (by omega) _ _ _ (by omega) ?_ ?_
                           · rw [cP_yes (P := fun u => gM (M 929) u ≠ -1) (by rw [← hii]; exact w61), hc]
                             omega
                           · refine ⟨(hS3.set (by omega)).set (by omega), fun u a b => ?_, fun u a b => ?_, fun p a b => ?_⟩
                             · by_cases e : u = ii
                               · rw [e, jset_same]
                               · rw [jset_j e, jset_k (by omega), jset_k (by omega), jset_k (by omega), jset_j e]
                                 exact hM.2.1 u a (by omega)
                             · rw [jset_k (by omega), jset_k (by omega)]
                               by_cases e : u = ii
                               · rw [e, jset_same]
                                 exact Or.inl ⟨w61, rfl⟩
                               · rw [jset_j e, jset_j e, jset_k (by omega)]
                                 exact hM.2.2.1 u a (by omega)
                             · rw [jset_k (by omega)]
                               by_cases e : p = gM (M 929) ii
                               · rw [e, jset_same]
                                 exact Or.inl ⟨⟨ii, by omega, by omega, rfl⟩, rfl⟩
                               · rw [jset_j e]
                                 rcases hk3 p a b with ⟨⟨s, x, y, z⟩, q⟩ | q
                                 · exact Or.inl ⟨⟨s, x, by omega, z⟩, q⟩
                                 · exact Or.inr ⟨fun ⟨s, x, y, z⟩ => by
                                     by_cases e2 : s = ii
                                     · rw [e2] at z
                                       exact e z.symm
                                     · exact q.1 ⟨s, x, by omega, z⟩, q.2⟩))
                · first
                   | (exfalso; omega)
                   | (skip
                      refine e_iinc (lsn := [(3, _), (0, _), (1, _), (2, _), (4, _)]) 78 dX4_matching_75 rfl (by decide) rfl rfl ?_
                      have hS3 : Scr M (jset (jset (jset Y 925 ii (-1)) 926 ii 1) 926 ii 1) := hS2.set (by omega)
                      have hk3 : ∀ p, 0 ≤ p → p < M 929 709 → ((∃ s, 0 ≤ s ∧ s < ii ∧ gM (M 929) s = p) ∧ jset (jset (jset Y 925 ii (-1)) 926 ii 1) 926 ii 1 927 p = 1) ∨ ((¬ ∃ s, 0 ≤ s ∧ s < ii ∧ gM (M 929) s = p) ∧ jset (jset (jset Y 925 ii (-1)) 926 ii 1) 926 ii 1 927 p = 0) := fun p a b => by
                        rw [jset_k (by omega), jset_k (by omega), jset_k (by omega)]
                        exact hM.2.2.2 p a b
                      refine e_aload_n (i := 0) 79 dX4_matching_78 rfl rfl rfl ?_
                      refine e_aload_n (i := 1) 80 dX4_matching_79 rfl rfl rfl ?_
                      refine e_iload 82 dX4_matching_80 rfl rfl ?_
                      refine e_callV 85 mt_yX4_takeLeast mv_yX4_takeLeast wd_1192 (by decide) dX4_matching_82 at_903 jc_4 rfl rfl rfl (Nat.le_of_ble_eq_true rfl) (jroom (by decide)) rfl (c_take9 hC hS3 (by omega) hk3 w61 ?_)
                      dsimp only [jpush]
                      refine e_iinc (lsn := [(4, _), (3, _), (0, _), (1, _), (2, _)]) 88 dX4_matching_85 rfl (by decide) rfl rfl ?_
                      refine e_goto 26 dX4_matching_88 (by decide) ?_
                      refine e_ls (ls2 := [(0, _), (1, _), (2, _), (3, _), (4, _)]) rfl ?_
                      first
                        | (exfalso; omega)
                        | (refine ih (i0 + 1) (by omega) _ _ _ (by omega) ?_ ?_
                           · rw [cP_yes (P := fun u => gM (M 929) u ≠ -1) (by rw [← hii]; exact w61), hc]
                             omega
                           · refine ⟨(hS3.set (by omega)).set (by omega), fun u a b => ?_, fun u a b => ?_, fun p a b => ?_⟩
                             · by_cases e : u = ii
                               · rw [e, jset_same]
                               · rw [jset_j e, jset_k (by omega), jset_k (by omega), jset_k (by omega), jset_j e]
                                 exact hM.2.1 u a (by omega)
                             · rw [jset_k (by omega), jset_k (by omega)]
                               by_cases e : u = ii
                               · rw [e, jset_same]
                                 exact Or.inl ⟨w61, rfl⟩
                               · rw [jset_j e, jset_j e, jset_k (by omega)]
                                 exact hM.2.2.1 u a (by omega)
                             · rw [jset_k (by omega)]
                               by_cases e : p = gM (M 929) ii
                               · rw [e, jset_same]
                                 exact Or.inl ⟨⟨ii, by omega, by omega, rfl⟩, rfl⟩
                               · rw [jset_j e]
                                 rcases hk3 p a b with ⟨⟨s, x, y, z⟩, q⟩ | q
                                 · exact Or.inl ⟨⟨s, x, by omega, z⟩, q⟩
                                 · exact Or.inr ⟨fun ⟨s, x, y, z⟩ => by
                                     by_cases e2 : s = ii
                                     · rw [e2] at z
                                       exact e z.symm
                                     · exact q.1 ⟨s, x, by omega, z⟩, q.2⟩)))
          · dsimp only [jpush]
            (try simp (disch := omega) only [jset_k, jset_j, jset_same, true_and, and_true] at w61)
            first
             | (exfalso; omega)
             | (skip
                refine e_zast 65 dX4_matching_64 ar_926 (by omega) (by omega) (by decide) rfl ?_
                refine e_aload_n (i := 0) 66 dX4_matching_65 rfl rfl rfl ?_
                refine e_getr (j := 12) 69 fl_4_48 dX4_matching_66 at_903 rfl rfl tp_903_12 rfl ?_
                refine e_iload 71 dX4_matching_69 rfl rfl ?_
                refine e_zald 72 dX4_matching_71 ar_926 (by omega) (by omega) rfl (fun r71 => ?_)
                simp (disch := omega) only [jset_k, jset_j, jset_same, true_and, and_true] at r71 ⊢
                refine e_if_eq 75 85 dX4_matching_72 (by omega) (by decide) rfl (fun b72 => ?_) (fun b72 => ?_)
                · first
                   | (exfalso; omega)
                   | (skip
                      refine e_iinc (lsn := [(4, _), (0, _), (1, _), (2, _), (3, _)]) 88 dX4_matching_85 rfl (by decide) rfl rfl ?_
                      refine e_goto 26 dX4_matching_88 (by decide) ?_
                      refine e_ls (ls2 := [(0, _), (1, _), (2, _), (3, _), (4, _)]) rfl ?_
                      first
                        | (exfalso; omega)
                        | (refine ih (i0 + 1) (by omega) _ _ _ (by omega) ?_ ?_
                           · rw [cP_no (P := fun u => gM (M 929) u ≠ -1) (by rw [← hii]; exact fun q => q w61)]
                             exact hc
                           · refine ⟨hS2.set (by omega), fun u a b => ?_, fun u a b => ?_, fun p a b => ?_⟩
                             · rw [jset_k (by omega), jset_k (by omega)]
                               by_cases e : u = ii
                               · rw [e, jset_same, w61]
                               · rw [jset_j e]
                                 exact hM.2.1 u a (by omega)
                             · by_cases e : u = ii
                               · rw [e, jset_same]
                                 exact Or.inr ⟨w61, rfl⟩
                               · rw [jset_j e, jset_j e, jset_k (by omega)]
                                 exact hM.2.2.1 u a (by omega)
                             · rw [jset_k (by omega), jset_k (by omega), jset_k (by omega)]
                               rcases hM.2.2.2 p a b with ⟨⟨s, x, y, z⟩, q⟩ | q
                               · exact Or.inl ⟨⟨s, x, by omega, z⟩, q⟩
                               · exact Or.inr ⟨fun ⟨s, x, y, z⟩ => by
                                   by_cases e2 : s = ii
                                   · rw [e2, w61] at z
                                     omega
                                   · exact q.1 ⟨s, x, by omega, z⟩, q.2⟩))
                · first
                   | (exfalso; omega)
                   | (skip
                      refine e_iinc (lsn := [(3, _), (0, _), (1, _), (2, _), (4, _)]) 78 dX4_matching_75 rfl (by decide) rfl rfl ?_
                      have hS3 : Scr M (jset (jset (jset Y 925 ii (-1)) 926 ii 1) 926 ii 1) := hS2.set (by omega)
                      have hk3 : ∀ p, 0 ≤ p → p < M 929 709 → ((∃ s, 0 ≤ s ∧ s < ii ∧ gM (M 929) s = p) ∧ jset (jset (jset Y 925 ii (-1)) 926 ii 1) 926 ii 1 927 p = 1) ∨ ((¬ ∃ s, 0 ≤ s ∧ s < ii ∧ gM (M 929) s = p) ∧ jset (jset (jset Y 925 ii (-1)) 926 ii 1) 926 ii 1 927 p = 0) := fun p a b => by
                        rw [jset_k (by omega), jset_k (by omega), jset_k (by omega)]
                        exact hM.2.2.2 p a b
                      refine e_aload_n (i := 0) 79 dX4_matching_78 rfl rfl rfl ?_
                      refine e_aload_n (i := 1) 80 dX4_matching_79 rfl rfl rfl ?_
                      refine e_iload 82 dX4_matching_80 rfl rfl ?_
                      refine e_callV 85 mt_yX4_takeLeast mv_yX4_takeLeast wd_1192 (by decide) dX4_matching_82 at_903 jc_4 rfl rfl rfl (Nat.le_of_ble_eq_true rfl) (jroom (by decide)) rfl (c_take9 hC hS3 (by omega) hk3 w61 ?_)
                      dsimp only [jpush]
                      refine e_iinc (lsn := [(4, _), (3, _), (0, _), (1, _), (2, _)]) 88 dX4_matching_85 rfl (by decide) rfl rfl ?_
                      refine e_goto 26 dX4_matching_88 (by decide) ?_
                      refine e_ls (ls2 := [(0, _), (1, _), (2, _), (3, _), (4, _)]) rfl ?_
                      first
                        | (exfalso; omega)
                        | (refine ih (i0 + 1) (by omega) _ _ _ (by omega) ?_ ?_
                           · rw [cP_no (P := fun u => gM (M 929) u ≠ -1) (by rw [← hii]; exact fun q => q w61)]
                             exact hc
                           · refine ⟨hS2.set (by omega), fun u a b => ?_, fun u a b => ?_, fun p a b => ?_⟩
                             · rw [jset_k (by omega), jset_k (by omega)]
                               by_cases e : u = ii
                               · rw [e, jset_same, w61]
                               · rw [jset_j e]
                                 exact hM.2.1 u a (by omega)
                             · by_cases e : u = ii
                               · rw [e, jset_same]
                                 exact Or.inr ⟨w61, rfl⟩
                               · rw [jset_j e, jset_j e, jset_k (by omega)]
                                 exact hM.2.2.1 u a (by omega)
                             · rw [jset_k (by omega), jset_k (by omega), jset_k (by omega)]
                               rcases hM.2.2.2 p a b with ⟨⟨s, x, y, z⟩, q⟩ | q
                               · exact Or.inl ⟨⟨s, x, by omega, z⟩, q⟩
                               · exact Or.inr ⟨fun ⟨s, x, y, z⟩ => by
                                   by_cases e2 : s = ii
                                   · rw [e2, w61] at z
                                     omega
                                   · exact q.1 ⟨s, x, by omega, z⟩, q.2⟩))))

theorem l_mfree {X : jX} {i : Int} {M : jM} {Q : Int → jM → Prop} (hC : CR M) (hi : -2147483648 ≤ i ∧ i ≤ 2147483647) (hir : i = -1 ∨ (0 ≤ i ∧ i < M 929 3895)) (h : ∀ Y : jM, Scr M Y → Q (if i = -1 then (cP (fun u => gM (M 929) u ≠ -1) (M 929 3895).toNat : Nat) else gM (M 929) i) Y) : ∀ (n : Nat) (ii : Int), 0 ≤ ii → ii + n = 60 → ∀ Y : jM, Scr M Y → (∀ p, 0 ≤ p → p < ii → Y 927 p = 0) → jE X yX4_matching cX4_matching 5 (some .int) 4 Q Y 2 [(0, jR 903), (1, jR 1), (2, jI i), (3, jI ii)] [] := by
  have hgM := hC.rng
  intro n
  induction n with
  | zero =>
    intro ii h0 hi9 Y hS hz
    refine e_iload_n (i := 3) 3 dX4_matching_2 rfl rfl rfl ?_
    refine e_bipush 5 dX4_matching_3 (by decide) rfl ?_
    refine e_icmp_ge 8 21 dX4_matching_5 (by omega) (by decide) (by decide) rfl (fun b5 => ?_) (fun b5 => ?_)
    · skip
      refine e_iconst 22 dX4_matching_21 rfl ?_
      refine e_istore_n (i := 3) (lsn := [(3, _), (0, _), (1, _), (2, _)]) 23 dX4_matching_22 rfl (by decide) rfl rfl ?_
      refine e_iconst 24 dX4_matching_23 rfl ?_
      refine e_istore (lsn := [(4, _), (3, _), (0, _), (1, _), (2, _)]) 26 dX4_matching_24 (by decide) rfl rfl ?_
      refine e_ls (ls2 := [(0, _), (1, _), (2, _), (3, _), (4, _)]) rfl ?_
      exact l_matching hC hi hir h (M 929 3895).toNat 0 (by omega) Y _ _ rfl rfl ⟨hS, fun u a b => by omega, fun u a b => by omega, fun p a b => Or.inr ⟨fun ⟨s, x, y, z⟩ => by omega, hz p a (by omega)⟩⟩
    · omega
  | succ n ih =>
    intro ii h0 hi9 Y hS hz
    refine e_iload_n (i := 3) 3 dX4_matching_2 rfl rfl rfl ?_
    refine e_bipush 5 dX4_matching_3 (by decide) rfl ?_
    refine e_icmp_ge 8 21 dX4_matching_5 (by omega) (by decide) (by decide) rfl (fun b5 => ?_) (fun b5 => ?_)
    · omega
    · skip
      refine e_aload_n (i := 0) 9 dX4_matching_8 rfl rfl rfl ?_
      refine e_getr (j := 13) 12 fl_4_52 dX4_matching_9 at_903 rfl rfl tp_903_13 rfl ?_
      refine e_iload_n (i := 3) 13 dX4_matching_12 rfl rfl rfl ?_
      refine e_iconst 14 dX4_matching_13 rfl ?_
      refine e_zast 15 dX4_matching_14 ar_927 (by omega) (by omega) (by decide) rfl ?_
      refine e_iinc (lsn := [(3, _), (0, _), (1, _), (2, _)]) 18 dX4_matching_15 rfl (by decide) rfl rfl ?_
      refine e_goto 2 dX4_matching_18 (by decide) ?_
      refine e_ls (ls2 := [(0, _), (1, _), (2, _), (3, _)]) rfl ?_
      refine ih (ii + 1) (by omega) (by omega) _ (hS.set (by omega)) (fun p a b => ?_)
      by_cases e : p = ii
      · rw [e, jset_same]
      · rw [jset_j e]
        exact hz p a (by omega)

theorem c_matching {i : Int} {M : jM} {Q : Int → jM → Prop} (hC : CR M) (hi : -2147483648 ≤ i ∧ i ≤ 2147483647) (hir : i = -1 ∨ (0 ≤ i ∧ i < M 929 3895)) (h : ∀ Y : jM, Scr M Y → Q (if i = -1 then (cP (fun u => gM (M 929) u ≠ -1) (M 929 3895).toNat : Nat) else gM (M 929) i) Y) : jCt yX4_matching cX4_matching 5 (some .int) 4 [jR 903, jR 1, jI i] M Q := by
  refine jCt_of mt_yX4_matching (Nat.le_of_ble_eq_true rfl) (fun X => ?_)
  refine e_iconst 1 dX4_matching_0 rfl ?_
  refine e_istore_n (i := 3) (lsn := [(3, _), (0, _), (1, _), (2, _)]) 2 dX4_matching_1 rfl (by decide) rfl rfl ?_
  refine e_ls (ls2 := [(0, _), (1, _), (2, _), (3, _)]) rfl ?_
  exact l_mfree hC hi hir h 60 0 (by omega) (by omega) M Scr.rf (fun p a b => by omega)

theorem c_match {i : Int} {M : jM} {Q : Int → jM → Prop} (hC : CR M) (hi : -2147483648 ≤ i ∧ i ≤ 2147483647) (h : ∀ Y : jM, Scr M Y → Q (if i = -1 then (cP (fun u => gM (M 929) u ≠ -1) (M 929 3895).toNat : Nat) else if 0 ≤ i ∧ i < M 929 3895 then gM (M 929) i else -1) Y) : jCt yX11_match cX11_match 2 (some .int) 5 [jR 0, jI i] M Q := by
  refine jCt_of mt_yX11_match (Nat.le_of_ble_eq_true rfl) (fun X => ?_)
  have hn := hC.cnt
  have hg := hC.rng
  refine e_iload_n (i := 1) 1 dX11_match_0 rfl rfl rfl ?_
  refine e_iconst 2 dX11_match_1 rfl ?_
  refine e_icmp_eq 5 24 dX11_match_2 (by omega) (by decide) (by decide) rfl (fun b2 => ?_) (fun b2 => ?_)
  · skip
    refine e_aload_n (i := 0) 25 dX11_match_24 rfl rfl rfl ?_
    refine e_getr (j := 5) 28 fl_11_41 dX11_match_25 at_0 rfl rfl tp_0_5 rfl ?_
    refine e_aload_n (i := 0) 29 dX11_match_28 rfl rfl rfl ?_
    refine e_getr (j := 0) 32 fl_11_10 dX11_match_29 at_0 rfl rfl tp_0_0 rfl ?_
    refine e_iload_n (i := 1) 33 dX11_match_32 rfl rfl rfl ?_
    refine e_callV 36 mt_yX4_matching mv_yX4_matching wd_1173 (by decide) dX11_match_33 at_903 jc_4 rfl rfl rfl (Nat.le_of_ble_eq_true rfl) (jroom (by decide)) rfl (c_matching hC hi (by omega) (fun Y33 hS33 => ?_))
    dsimp only [jpush]
    refine e_iret dX11_match_36 ?_
    have h := h Y33 hS33
    by_cases e : i = -1
    · rw [if_pos e] at h ⊢
      exact h
    · rw [if_neg e, if_pos (by omega)] at h
      rw [if_neg e]
      exact h
  · skip
    refine e_iload_n (i := 1) 6 dX11_match_5 rfl rfl rfl ?_
    refine e_iconst 7 dX11_match_6 rfl ?_
    refine e_aload_n (i := 0) 8 dX11_match_7 rfl rfl rfl ?_
    refine e_getr (j := 0) 11 fl_11_10 dX11_match_8 at_0 rfl rfl tp_0_0 rfl ?_
    refine e_geti (j := 19) 14 fl_11_416 dX11_match_11 at_1 (by decide) rfl rfl (fun r11 => ?_)
    refine e_iconst 15 dX11_match_14 rfl ?_
    refine e_isub 16 dX11_match_15 rfl ?_
    refine e_callS 19 mt_yX11_within ms_yX11_within wd_531 (by decide) dX11_match_16 rfl rfl (Nat.le_of_ble_eq_true rfl) (jroom (by decide)) rfl (c_within (by omega) (by omega) (by omega) (fun w16 => ?_) (fun w16 => ?_))
    · dsimp only [jpush]
      refine e_if_ne 22 24 dX11_match_19 (by decide) (by decide) rfl (fun _ => ?_) (fun h => absurd h (by decide))
      refine e_aload_n (i := 0) 25 dX11_match_24 rfl rfl rfl ?_
      refine e_getr (j := 5) 28 fl_11_41 dX11_match_25 at_0 rfl rfl tp_0_5 rfl ?_
      refine e_aload_n (i := 0) 29 dX11_match_28 rfl rfl rfl ?_
      refine e_getr (j := 0) 32 fl_11_10 dX11_match_29 at_0 rfl rfl tp_0_0 rfl ?_
      refine e_iload_n (i := 1) 33 dX11_match_32 rfl rfl rfl ?_
      refine e_callV 36 mt_yX4_matching mv_yX4_matching wd_1173 (by decide) dX11_match_33 at_903 jc_4 rfl rfl rfl (Nat.le_of_ble_eq_true rfl) (jroom (by decide)) rfl (c_matching hC hi (by omega) (fun Y33 hS33 => ?_))
      dsimp only [jpush]
      refine e_iret dX11_match_36 ?_
      have h := h Y33 hS33
      by_cases e : i = -1
      · rw [if_pos e] at h ⊢
        exact h
      · rw [if_neg e, if_pos (by omega)] at h
        rw [if_neg e]
        exact h
    · dsimp only [jpush]
      refine e_if_ne 22 24 dX11_match_19 (by decide) (by decide) rfl (fun h => absurd h (by decide)) (fun _ => ?_)
      refine e_iconst 23 dX11_match_22 rfl ?_
      refine e_iret dX11_match_23 ?_
      have h := h M Scr.rf
      rw [if_neg (by omega), if_neg (by omega)] at h
      exact h

def upd1 (W : Int → Int) (i v p : Int) : Int := if p = i then v else W p
theorem u1 {W : Int → Int} {i v : Int} : upd1 W i v i = v := if_pos rfl
theorem u2 {W : Int → Int} {i v p : Int} (h : p ≠ i) : upd1 W i v p = W p := if_neg h
def KPre (mb : Int → Int → Prop) (W : Int → Int) (L : Int → Prop) (N T : Nat) (v : Int) : Prop := (∀ p : Int, 0 ≤ p → p < N → W p ≠ -1 → (0 ≤ W p ∧ W p < T) ∧ mb (W p) p) ∧ (∀ p q : Int, 0 ≤ p → p < N → 0 ≤ q → q < N → p ≠ q → W p = W q → W p = -1) ∧ (∀ p : Int, 0 ≤ p → p < N → W p = v → L p) ∧ 0 ≤ v ∧ v < T
/-- found: L was looked at, W was held; W2, L2 behind it; v's old place doesn't count -/
def KYes (mb : Int → Int → Prop) (W : Int → Int) (L : Int → Prop) (W2 : Int → Int) (L2 : Int → Prop) (N T : Nat) (v f : Int) : Prop :=
  (∀ p : Int, 0 ≤ p → p < N → L p → L2 p ∧ W2 p = W p) ∧ (∀ p : Int, 0 ≤ p → p < N → W p ≠ v → W2 p ≠ -1 → (0 ≤ W2 p ∧ W2 p < T) ∧ mb (W2 p) p) ∧
  (∀ p q : Int, 0 ≤ p → p < N → 0 ≤ q → q < N → p ≠ q → W p ≠ v → W q ≠ v → W2 p = W2 q → W2 p = -1) ∧ (∃ q : Int, 0 ≤ q ∧ q < N ∧ W q ≠ v ∧ W2 q = v) ∧
  (∀ u : Int, 0 ≤ u → u ≠ v → ((∃ p : Int, 0 ≤ p ∧ p < N ∧ W p ≠ v ∧ W2 p = u) ↔ ∃ p : Int, 0 ≤ p ∧ p < N ∧ W p = u)) ∧ (∀ p : Int, 0 ≤ p → p < N → 0 ≤ W p → W p < f → W2 p = W p)
/-- not found up to ii -/
def KNo (mb : Int → Int → Prop) (W : Int → Int) (L L2 : Int → Prop) (N : Nat) (v f ii : Int) : Prop :=
  (∀ p : Int, 0 ≤ p → p < N → L p → L2 p) ∧ (∀ p : Int, 0 ≤ p → p < ii → mb v p → (W p = -1 ∨ f ≤ W p) → L2 p) ∧
  (∀ p : Int, 0 ≤ p → p < N → L2 p → ¬ L p → f ≤ W p ∧ ∀ q : Int, 0 ≤ q → q < N → mb (W p) q → (W q = -1 ∨ f ≤ W q) → L2 q)
theorem k_yes0 {mb : Int → Int → Prop} {W : Int → Int} {L L2 : Int → Prop} {N T : Nat} {v f ii : Int} (hf : 0 ≤ f) (hP : KPre mb W L N T v) (hN : KNo mb W L L2 N v f ii) (i0 : 0 ≤ ii) (i1 : ii < N) (hn : ¬ L2 ii) (hm : mb v ii) (hw : W ii = -1) : KYes mb W L (upd1 W ii v) (fun p => p = ii ∨ L2 p) N T v f := by
  obtain ⟨p1, p2, p3, p4, p5⟩ := hP
  obtain ⟨n1, n2, n3⟩ := hN
  have hl : ¬ L ii := fun q => hn (n1 ii i0 i1 q)
  have hne : W ii ≠ v := by omega
  refine ⟨fun p a b c => ⟨Or.inr (n1 p a b c), u2 (fun e => hl (by rw [← e]; exact c))⟩, fun p a b c d => ?_, fun p q a b c d e g k x => ?_, ⟨ii, i0, i1, hne, u1⟩, fun u a b => ⟨fun ⟨p, x, y, z, w⟩ => ?_, fun ⟨p, x, y, z⟩ => ?_⟩, fun p a b c d => u2 (fun e => by rw [e] at c; omega)⟩
  · by_cases e : p = ii
    · rw [e, u1]
      exact ⟨⟨p4, p5⟩, hm⟩
    · rw [u2 e] at d ⊢
      exact p1 p a b d
  · by_cases e1 : p = ii
    · rw [e1, u1] at x ⊢
      rw [u2 (fun z => e (e1.trans z.symm))] at x
      exact absurd x.symm k
    · rw [u2 e1] at x ⊢
      by_cases e2 : q = ii
      · rw [e2, u1] at x
        exact absurd x g
      · rw [u2 e2] at x
        exact p2 p q a b c d e x
  · by_cases e : p = ii
    · rw [e, u1] at w
      exact absurd w.symm b
    · rw [u2 e] at w
      exact ⟨p, x, y, w⟩
  · refine ⟨p, x, y, by omega, ?_⟩
    rw [u2 (fun e => by rw [e] at z; omega)]
    exact z
theorem k_pre {mb : Int → Int → Prop} {W : Int → Int} {L L2 : Int → Prop} {N T : Nat} {v ii : Int} (hP : KPre mb W L N T v) (i0 : 0 ≤ ii) (i1 : ii < N) (hw : W ii ≠ -1) : KPre mb W (fun p => p = ii ∨ L2 p) N T (W ii) := by
  obtain ⟨p1, p2, p3, p4, p5⟩ := hP
  refine ⟨p1, p2, fun p a b c => ?_, (p1 ii i0 i1 hw).1⟩
  by_cases e : p = ii
  · exact Or.inl e
  · have := p2 p ii a b i0 i1 e c
    omega
theorem k_yes1 {mb : Int → Int → Prop} {W W3 : Int → Int} {L L2 L3 : Int → Prop} {N T : Nat} {v f ii : Int} (hf : 0 ≤ f) (hP : KPre mb W L N T v) (hN : KNo mb W L L2 N v f ii) (i0 : 0 ≤ ii) (i1 : ii < N) (hn : ¬ L2 ii) (hm : mb v ii) (hw : f ≤ W ii) (hY : KYes mb W (fun p => p = ii ∨ L2 p) W3 L3 N T (W ii) f) : KYes mb W L (upd1 W3 ii v) L3 N T v f := by
  obtain ⟨p1, p2, p3, p4, p5⟩ := hP
  obtain ⟨n1, n2, n3⟩ := hN
  obtain ⟨y1, y2, y3, y4, y5, y6⟩ := hY
  have hl : ¬ L ii := fun q => hn (n1 ii i0 i1 q)
  have hne : W ii ≠ v := fun q => hl (p3 ii i0 i1 q)
  have honly : ∀ p : Int, 0 ≤ p → p < N → p ≠ ii → W p ≠ W ii := fun p a b c d => by
    have := p2 p ii a b i0 i1 c d
    omega
  have hvat : ∀ p : Int, 0 ≤ p → p < N → W p ≠ v → p ≠ ii → W3 p ≠ v := fun p a b c d e => by
    have h5 := (y5 v p4 hne.symm).mp ⟨p, a, b, honly p a b d, e⟩
    obtain ⟨q, q0, q1, q2⟩ := h5
    have hq := y1 q q0 q1 (Or.inr (n1 q q0 q1 (p3 q q0 q1 q2)))
    have hqi : q ≠ ii := fun z => hne (by rw [← z]; exact q2)
    have hpq : p ≠ q := fun z => c (by rw [z]; exact q2)
    have h3 := y3 p q a b q0 q1 hpq (honly p a b d) (honly q q0 q1 hqi) (by rw [e, hq.2, q2])
    omega
  refine ⟨fun p a b c => ⟨(y1 p a b (Or.inr (n1 p a b c))).1, ?_⟩, fun p a b c d => ?_, fun p q a b c d e g k x => ?_, ⟨ii, i0, i1, hne, u1⟩, fun u a b => ⟨fun ⟨p, x, y, z, w⟩ => ?_, fun ⟨p, x, y, z⟩ => ?_⟩, fun p a b c d => ?_⟩
  · rw [u2 (fun e => hl (by rw [← e]; exact c))]
    exact (y1 p a b (Or.inr (n1 p a b c))).2
  · by_cases e : p = ii
    · rw [e, u1]
      exact ⟨⟨p4, p5⟩, hm⟩
    · rw [u2 e] at d ⊢
      exact y2 p a b (honly p a b e) d
  · by_cases e1 : p = ii
    · rw [e1, u1] at x ⊢
      have e2 : q ≠ ii := fun z => e (e1.trans z.symm)
      rw [u2 e2] at x
      exact absurd x.symm (hvat q c d k e2)
    · rw [u2 e1] at x ⊢
      by_cases e2 : q = ii
      · rw [e2, u1] at x
        exact absurd x (hvat p a b g e1)
      · rw [u2 e2] at x
        exact y3 p q a b c d e (honly p a b e1) (honly q c d e2) x
  · by_cases e : p = ii
    · rw [e, u1] at w
      exact absurd w.symm b
    · rw [u2 e] at w
      by_cases e2 : u = W ii
      · exact ⟨ii, i0, i1, e2.symm⟩
      · exact (y5 u a e2).mp ⟨p, x, y, honly p x y e, w⟩
  · by_cases e2 : u = W ii
    · obtain ⟨q, q0, q1, q2, q3⟩ := y4
      have hqi : q ≠ ii := fun z => by
        rw [z] at q2
        exact q2 rfl
      refine ⟨q, q0, q1, fun z => ?_, ?_⟩
      · have hq := y1 q q0 q1 (Or.inr (n1 q q0 q1 (p3 q q0 q1 z)))
        rw [hq.2, z] at q3
        exact hne q3.symm
      · rw [u2 hqi, q3, e2]
    · obtain ⟨q, q0, q1, q2, q3⟩ := (y5 u a e2).mpr ⟨p, x, y, z⟩
      have hqi : q ≠ ii := fun w => by
        rw [w] at q2
        exact q2 rfl
      refine ⟨q, q0, q1, fun w => ?_, ?_⟩
      · have hq := y1 q q0 q1 (Or.inr (n1 q q0 q1 (p3 q q0 q1 w)))
        rw [hq.2, w] at q3
        exact b q3.symm
      · rw [u2 hqi]
        exact q3
  · rw [u2 (fun e => by rw [e] at d; omega)]
    exact y6 p a b c d
theorem k_no1 {mb : Int → Int → Prop} {W : Int → Int} {L L2 L3 : Int → Prop} {N : Nat} {v f ii : Int} (hN : KNo mb W L L2 N v f ii) (i0 : 0 ≤ ii) (i1 : ii < N) (hw : f ≤ W ii) (hY : KNo mb W (fun p => p = ii ∨ L2 p) L3 N (W ii) f N) : KNo mb W L L3 N v f (ii + 1) := by
  obtain ⟨n1, n2, n3⟩ := hN
  obtain ⟨y1, y2, y3⟩ := hY
  refine ⟨fun p a b c => y1 p a b (Or.inr (n1 p a b c)), fun p a b c d => ?_, fun p a b c d => ?_⟩
  · by_cases e : p = ii
    · rw [e]
      exact y1 ii i0 i1 (Or.inl rfl)
    · exact y1 p a (by omega) (Or.inr (n2 p a (by omega) c d))
  · by_cases e : p = ii
    · rw [e]
      exact ⟨hw, fun q q0 q1 q2 q3 => y2 q q0 q1 q2 q3⟩
    · by_cases e2 : L2 p
      · have h := n3 p a b e2 d
        exact ⟨h.1, fun q q0 q1 q2 q3 => y1 q q0 q1 (Or.inr (h.2 q q0 q1 q2 q3))⟩
      · exact y3 p a b c (fun z => z.elim e e2)
theorem k_no0 {mb : Int → Int → Prop} {W : Int → Int} {L L2 : Int → Prop} {N : Nat} {v f ii : Int} (hN : KNo mb W L L2 N v f ii) (h : mb v ii → (W ii = -1 ∨ f ≤ W ii) → L2 ii) : KNo mb W L L2 N v f (ii + 1) := by
  obtain ⟨n1, n2, n3⟩ := hN
  refine ⟨n1, fun p a b c d => ?_, n3⟩
  by_cases e : p = ii
  · rw [e] at c d ⊢
    exact h c d
  · exact n2 p a (by omega) c d
