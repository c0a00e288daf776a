/-! MATCHED *** the reference, whole; PAIRS: match -/
theorem lm_one2 {X : jX} {M : jM} {Q : Int → jM → Prop} (hC : CR M) {i : Int} (hi : 0 ≤ i ∧ i < M 929 3895) (h : ∀ Z : jM, Scr M Z → Q (gM (M 929) i) Z) {t : Nat} {tt c : Int} (htt : tt = t) (ht : (t : Int) ≤ i) (hc : c = (cP (fun u => gM (M 929) u ≠ -1) (M 929 3895).toNat : Nat)) (hq : ∀ (Z : jM) (b z : Int), Scr M Z → (∀ u : Int, 0 ≤ u → u < (t : Int) → Z 944 u = gM (M 929) u) → b = gM (M 929) t → jE X yX12_match cX12_match 6 (some .int) 67 Q Z 128 [(0, jR 928), (1, jI i), (2, jI c), (3, jI tt), (4, jI b), (5, jI z)] []) (hx : gM (M 929) t ≠ -1) {Y : jM} (hS : Scr M Y) (hP : ∀ u : Int, 0 ≤ u → u < (t : Int) → Y 944 u = gM (M 929) u) {b z : Int} (hz : 0 ≤ z ∧ z ≤ 60) (hb : b = gM (M 929) t) : jE X yX12_match cX12_match 6 (some .int) 67 Q Y 53 [(0, jR 928), (1, jI i), (2, jI c), (3, jI tt), (4, jI b), (5, jI z)] [] := by
  have hCY := hS.cr hC
  have e9 := hS.row
  have hn := hCY.cnt
  have hg := hCY.rng
  have e71 : Y 929 3895 = M 929 3895 := by rw [e9]
  have e72 : Y 929 709 = M 929 709 := by rw [e9]
  have hgr := gM_ok (a := M 929)
  have hct0 := cP_top (fun u => gM (M 929) u ≠ -1) (M 929 3895).toNat
  have hgb := fun q => ((hgr t (by omega) (by omega)).1 q).1
  have hg1 : -1 ≤ gM (M 929) t ∧ gM (M 929) t ≤ 60 := by
    by_cases e : gM (M 929) t = -1
    · omega
    · have := hgb e
      omega
  refine e_iload 55 dX12_match_53 rfl rfl ?_
  refine e_aload_n (i := 0) 56 dX12_match_55 rfl rfl rfl ?_
  refine e_getr (j := 1) 59 fl_12_13 dX12_match_56 at_928 rfl rfl tp_928_1 rfl ?_
  refine e_sipush 62 dX12_match_59 (by decide) rfl ?_
  refine e_iald 63 dX12_match_62 ar_929 (by decide) (by decide) rfl (fun r62 => ?_)
  refine e_icmp_ge 66 128 dX12_match_63 (by omega) (by omega) (by decide) rfl (fun b63 => ?_) (fun b63 => ?_)
  · first
     | (exfalso; omega)
     | (skip
        exact hq Y b z hS hP hb)
  · first
     | (exfalso; omega)
     | (skip
        refine e_iload 68 dX12_match_66 rfl rfl ?_
        refine e_iconst 69 dX12_match_68 rfl ?_
        refine e_icmp_ne 72 128 dX12_match_69 (by omega) (by decide) (by decide) rfl (fun b69 => ?_) (fun b69 => ?_)
        · first
           | (exfalso; omega)
           | (skip
              exact hq Y b z hS hP hb)
        · omega)

theorem lm_one {X : jX} {M : jM} {Q : Int → jM → Prop} (hC : CR M) {i : Int} (hi : 0 ≤ i ∧ i < M 929 3895) (h : ∀ Z : jM, Scr M Z → Q (gM (M 929) i) Z) {t : Nat} {tt c : Int} (htt : tt = t) (ht : (t : Int) ≤ i) (hc : c = (cP (fun u => gM (M 929) u ≠ -1) (M 929 3895).toNat : Nat)) (hq : ∀ (Z : jM) (b z : Int), Scr M Z → (∀ u : Int, 0 ≤ u → u < (t : Int) → Z 944 u = gM (M 929) u) → b = gM (M 929) t → jE X yX12_match cX12_match 6 (some .int) 67 Q Z 128 [(0, jR 928), (1, jI i), (2, jI c), (3, jI tt), (4, jI b), (5, jI z)] []) : ∀ (n : Nat) (ii : Int), 0 ≤ ii → ii + n = M 929 709 → ∀ Y : jM, Scr M Y → (∀ u : Int, 0 ≤ u → u < (t : Int) → Y 944 u = gM (M 929) u) → (∀ p, 0 ≤ p → p < ii → rMbP (M 929) t p → ∃ s, 0 ≤ s ∧ s < (t : Int) ∧ gM (M 929) s = p) → jE X yX12_match cX12_match 6 (some .int) 67 Q Y 53 [(0, jR 928), (1, jI i), (2, jI c), (3, jI tt), (4, jI (-1)), (5, jI ii)] [] := by
  intro n
  induction n with
  | zero =>
    intro ii a0 hi2 Y hS hP hno
    have hCY := hS.cr hC
    have e9 := hS.row
    have hn := hCY.cnt
    have hg := hCY.rng
    have e71 : Y 929 3895 = M 929 3895 := by rw [e9]
    have e72 : Y 929 709 = M 929 709 := by rw [e9]
    have hgr := gM_ok (a := M 929)
    have hct0 := cP_top (fun u => gM (M 929) u ≠ -1) (M 929 3895).toNat
    have hgb := fun q => ((hgr t (by omega) (by omega)).1 q).1
    have hg1 : -1 ≤ gM (M 929) t ∧ gM (M 929) t ≤ 60 := by
      by_cases e : gM (M 929) t = -1
      · omega
      · have := hgb e
        omega
    refine e_iload 55 dX12_match_53 rfl rfl ?_
    refine e_aload_n (i := 0) 56 dX12_match_55 rfl rfl rfl ?_
    refine e_getr (j := 1) 59 fl_12_13 dX12_match_56 at_928 rfl rfl tp_928_1 rfl ?_
    refine e_sipush 62 dX12_match_59 (by decide) rfl ?_
    refine e_iald 63 dX12_match_62 ar_929 (by decide) (by decide) rfl (fun r62 => ?_)
    refine e_icmp_ge 66 128 dX12_match_63 (by omega) (by omega) (by decide) rfl (fun b63 => ?_) (fun b63 => ?_)
    · skip
      refine hq Y _ ii hS hP ?_
      refine Eq.symm (Classical.byContradiction (fun q => ?_))
      have hg2 := (hgr t (by omega) (by omega)).1 q
      obtain ⟨s, x, y, z⟩ := hno (gM (M 929) t) hg2.1.1 (by omega) hg2.2.1
      exact hg2.2.2.1 s x y z
    · omega
  | succ n ih =>
    intro ii a0 hi2 Y hS hP hno
    have hCY := hS.cr hC
    have e9 := hS.row
    have hn := hCY.cnt
    have hg := hCY.rng
    have e71 : Y 929 3895 = M 929 3895 := by rw [e9]
    have e72 : Y 929 709 = M 929 709 := by rw [e9]
    have hgr := gM_ok (a := M 929)
    have hct0 := cP_top (fun u => gM (M 929) u ≠ -1) (M 929 3895).toNat
    have hgb := fun q => ((hgr t (by omega) (by omega)).1 q).1
    have hg1 : -1 ≤ gM (M 929) t ∧ gM (M 929) t ≤ 60 := by
      by_cases e : gM (M 929) t = -1
      · omega
      · have := hgb e
        omega
    have hPt : ∀ u, 0 ≤ u → u < tt → Y 944 u = gM (M 929) u := fun u z b => hP u z (by omega)
    refine e_iload 55 dX12_match_53 rfl rfl ?_
    refine e_aload_n (i := 0) 56 dX12_match_55 rfl rfl rfl ?_
    refine e_getr (j := 1) 59 fl_12_13 dX12_match_56 at_928 rfl rfl tp_928_1 rfl ?_
    refine e_sipush 62 dX12_match_59 (by decide) rfl ?_
    refine e_iald 63 dX12_match_62 ar_929 (by decide) (by decide) rfl (fun r62 => ?_)
    refine e_icmp_ge 66 128 dX12_match_63 (by omega) (by omega) (by decide) rfl (fun b63 => ?_) (fun b63 => ?_)
    · omega
    · first
       | (exfalso; omega)
       | (skip
          refine e_iload 68 dX12_match_66 rfl rfl ?_
          refine e_iconst 69 dX12_match_68 rfl ?_
          refine e_icmp_ne 72 128 dX12_match_69 (by decide) (by decide) (by decide) rfl (fun h => absurd h (by decide)) (fun _ => ?_)
          refine e_aload_n (i := 0) 73 dX12_match_72 rfl rfl rfl ?_
          refine e_iload_n (i := 3) 74 dX12_match_73 rfl rfl rfl ?_
          refine e_iload 76 dX12_match_74 rfl rfl ?_
          refine e_callV 79 mt_yX12_mayBe mv_yX12_mayBe wd_1795 (by decide) dX12_match_76 at_928 jc_12 rfl rfl rfl (Nat.le_of_ble_eq_true rfl) (jroom (by decide)) rfl (m_mayBe hC hS (by omega) (by omega) (fun w76 => ?_) (fun w76 => ?_))
          · dsimp only [jpush]
            first
             | (exfalso; omega)
             | (skip
                refine e_if_eq 82 122 dX12_match_79 (by decide) (by decide) rfl (fun h => absurd h (by decide)) (fun _ => ?_)
                refine e_aload_n (i := 0) 83 dX12_match_82 rfl rfl rfl ?_
                refine e_iload 85 dX12_match_83 rfl rfl ?_
                refine e_iload_n (i := 3) 86 dX12_match_85 rfl rfl rfl ?_
                refine e_callV 89 mt_yX12_isTaken mv_yX12_isTaken wd_1799 (by decide) dX12_match_86 at_928 jc_12 rfl rfl rfl (Nat.le_of_ble_eq_true rfl) (jroom (by decide)) rfl (m_isTaken hC hS (by omega) (by omega) hPt (fun w86 => ?_) (fun w86 => ?_))
                · dsimp only [jpush]
                  first
                   | (exfalso; omega)
                   | (skip
                      refine e_if_eq 92 95 dX12_match_89 (by decide) (by decide) rfl (fun h => absurd h (by decide)) (fun _ => ?_)
                      refine e_goto 122 dX12_match_92 (by decide) ?_
                      refine e_iinc (lsn := [(5, _), (0, _), (1, _), (2, _), (3, _), (4, _)]) 125 dX12_match_122 rfl (by decide) rfl rfl ?_
                      refine e_goto 53 dX12_match_125 (by decide) ?_
                      refine e_ls (ls2 := [(0, _), (1, _), (2, _), (3, _), (4, _), (5, _)]) rfl ?_
                      refine ih (ii + 1) (by omega) (by omega) Y hS hP (fun p a b d => ?_)
                      by_cases e : p = ii
                      · rw [e] at d ⊢
                        obtain ⟨s, x, y, z⟩ := w86
                        exact ⟨s, x, by omega, z⟩
                      · exact hno p a (by omega) d)
                · dsimp only [jpush]
                  first
                   | (exfalso; omega)
                   | (skip
                      refine e_if_eq 92 95 dX12_match_89 (by decide) (by decide) rfl (fun _ => ?_) (fun h => absurd h (by decide))
                      have hne : gM (M 929) t ≠ -1 := fun e => by
                        obtain ⟨s, x, y, z⟩ := (hgr t (by omega) (by omega)).2 e ii a0 (by omega) (by rw [← htt]; exact w76)
                        exact w86 ⟨s, x, by omega, z⟩
                      have hpe : ii = gM (M 929) t := by
                        have hg2 := (hgr t (by omega) (by omega)).1 hne
                        by_cases e : ii < gM (M 929) t
                        · obtain ⟨s, x, y, z⟩ := hg2.2.2.2 ii a0 e (by rw [← htt]; exact w76)
                          exact absurd ⟨s, x, by omega, z⟩ w86
                        · by_cases e2 : gM (M 929) t < ii
                          · obtain ⟨s, x, y, z⟩ := hno (gM (M 929) t) hg2.1.1 e2 hg2.2.1
                            exact absurd z (hg2.2.2.1 s x y)
                          · omega
                      have hS2 : Scr M (jset Y 944 tt ii) := hS.set (by omega)
                      have hP2 : ∀ u : Int, 0 ≤ u → u < ((t + 1 : Nat) : Int) → jset Y 944 tt ii 944 u = gM (M 929) u := fun u z b => by
                        by_cases e : u = tt
                        · rw [e, jset_same, hpe, htt]
                        · rw [jset_j e]
                          exact hP u z (by omega)
                      refine e_aload_n (i := 0) 96 dX12_match_95 rfl rfl rfl ?_
                      refine e_getr (j := 29) 99 fl_12_63 dX12_match_96 at_928 rfl rfl tp_928_29 rfl ?_
                      refine e_iload_n (i := 3) 100 dX12_match_99 rfl rfl rfl ?_
                      refine e_iload 102 dX12_match_100 rfl rfl ?_
                      refine e_iast 103 dX12_match_102 ar_944 (by omega) (by omega) (by omega) rfl ?_
                      refine e_aload_n (i := 0) 104 dX12_match_103 rfl rfl rfl ?_
                      refine e_iload_n (i := 3) 105 dX12_match_104 rfl rfl rfl ?_
                      refine e_iconst 106 dX12_match_105 rfl ?_
                      refine e_iadd 107 dX12_match_106 rfl ?_
                      refine e_callV 110 mt_yX12_matches mv_yX12_matches wd_1787 (by decide) dX12_match_107 at_928 jc_12 rfl rfl rfl (Nat.le_of_ble_eq_true rfl) (jroom (by decide)) rfl (m_matches hC (f := t + 1) (by omega) (by omega) hS2 hP2 (fun Z107 hZ107 hU107 => ?_))
                      dsimp only [jpush]
                      (try simp (disch := omega) only [jset_k, jset_j, jset_same, true_and, and_true] at Z107 hZ107 hU107)
                      refine e_iload_n (i := 2) 111 dX12_match_110 rfl rfl rfl ?_
                      refine e_icmp_ne 114 119 dX12_match_111 (by omega) (by omega) (by decide) rfl (fun b111 => ?_) (fun b111 => ?_)
                      · first
                         | (exfalso; omega)
                         | (skip
                            refine e_iconst 120 dX12_match_119 rfl ?_
                            refine e_istore (lsn := [(4, _), (0, _), (1, _), (2, _), (3, _), (5, _)]) 122 dX12_match_120 (by decide) rfl rfl ?_
                            refine e_iinc (lsn := [(5, _), (4, _), (0, _), (1, _), (2, _), (3, _)]) 125 dX12_match_122 rfl (by decide) rfl rfl ?_
                            refine e_goto 53 dX12_match_125 (by decide) ?_
                            refine e_ls (ls2 := [(0, _), (1, _), (2, _), (3, _), (4, _), (5, _)]) rfl ?_
                            exact lm_one2 hC hi h htt ht hc hq hne hZ107 (fun u z a => hU107 u z (by omega)) (by omega) hpe)
                      · first
                         | (exfalso; omega)
                         | (skip
                            refine e_iload 116 dX12_match_114 rfl rfl ?_
                            refine e_goto 120 dX12_match_116 (by decide) ?_
                            refine e_istore (lsn := [(4, _), (0, _), (1, _), (2, _), (3, _), (5, _)]) 122 dX12_match_120 (by decide) rfl rfl ?_
                            refine e_iinc (lsn := [(5, _), (4, _), (0, _), (1, _), (2, _), (3, _)]) 125 dX12_match_122 rfl (by decide) rfl rfl ?_
                            refine e_goto 53 dX12_match_125 (by decide) ?_
                            refine e_ls (ls2 := [(0, _), (1, _), (2, _), (3, _), (4, _), (5, _)]) rfl ?_
                            exact lm_one2 hC hi h htt ht hc hq hne hZ107 (fun u z a => hU107 u z (by omega)) (by omega) hpe)))
          · dsimp only [jpush]
            first
             | (exfalso; omega)
             | (skip
                refine e_if_eq 82 122 dX12_match_79 (by decide) (by decide) rfl (fun _ => ?_) (fun h => absurd h (by decide))
                refine e_iinc (lsn := [(5, _), (0, _), (1, _), (2, _), (3, _), (4, _)]) 125 dX12_match_122 rfl (by decide) rfl rfl ?_
                refine e_goto 53 dX12_match_125 (by decide) ?_
                refine e_ls (ls2 := [(0, _), (1, _), (2, _), (3, _), (4, _), (5, _)]) rfl ?_
                refine ih (ii + 1) (by omega) (by omega) Y hS hP (fun p a b d => ?_)
                by_cases e : p = ii
                · rw [e] at d ⊢
                  rw [← htt] at d
                  exact absurd d w76
                · exact hno p a (by omega) d))

theorem lm_match {X : jX} {M : jM} {Q : Int → jM → Prop} (hC : CR M) {i : Int} (hi : 0 ≤ i ∧ i < M 929 3895) (h : ∀ Z : jM, Scr M Z → Q (gM (M 929) i) Z) {c : Int} (hc : c = (cP (fun u => gM (M 929) u ≠ -1) (M 929 3895).toNat : Nat)) : ∀ n t : Nat, (t : Int) + n = i + 1 → ∀ Y : jM, Scr M Y → (∀ u : Int, 0 ≤ u → u < (t : Int) → Y 944 u = gM (M 929) u) → ∀ tt : Int, tt = t → jE X yX12_match cX12_match 6 (some .int) 67 Q Y 42 [(0, jR 928), (1, jI i), (2, jI c), (3, jI tt)] [] := by
  intro n
  induction n with
  | zero =>
    intro t hi2 Y hS hP tt htt
    have hpi := hP i (by omega) (by omega)
    have hg := (hS.cr hC).rng
    have e9 := hS.row
    rw [e9] at hg
    have h := h Y hS
    rw [← hpi] at h
    refine e_iload_n (i := 3) 43 dX12_match_42 rfl rfl rfl ?_
    refine e_iload_n (i := 1) 44 dX12_match_43 rfl rfl rfl ?_
    refine e_icmp_gt 47 142 dX12_match_44 (by omega) (by omega) (by decide) rfl (fun b44 => ?_) (fun b44 => ?_)
    · skip
      refine e_aload_n (i := 0) 143 dX12_match_142 rfl rfl rfl ?_
      refine e_getr (j := 29) 146 fl_12_63 dX12_match_143 at_928 rfl rfl tp_928_29 rfl ?_
      refine e_iload_n (i := 1) 147 dX12_match_146 rfl rfl rfl ?_
      refine e_iald 148 dX12_match_147 ar_944 (by omega) (by omega) rfl (fun r147 => ?_)
      refine e_iret dX12_match_148 ?_
      exact h
    · omega
  | succ n ih =>
    intro t hi2 Y hS hP tt htt
    have hCY := hS.cr hC
    have e9 := hS.row
    have hn := hCY.cnt
    have hg := hCY.rng
    have e71 : Y 929 3895 = M 929 3895 := by rw [e9]
    have e72 : Y 929 709 = M 929 709 := by rw [e9]
    have hgr := gM_ok (a := M 929)
    have hct0 := cP_top (fun u => gM (M 929) u ≠ -1) (M 929 3895).toNat
    have hgb := fun q => ((hgr t (by omega) (by omega)).1 q).1
    have hg1 : -1 ≤ gM (M 929) t ∧ gM (M 929) t ≤ 60 := by
      by_cases e : gM (M 929) t = -1
      · omega
      · have := hgb e
        omega
    refine e_iload_n (i := 3) 43 dX12_match_42 rfl rfl rfl ?_
    refine e_iload_n (i := 1) 44 dX12_match_43 rfl rfl rfl ?_
    refine e_icmp_gt 47 142 dX12_match_44 (by omega) (by omega) (by decide) rfl (fun b44 => ?_) (fun b44 => ?_)
    · omega
    · skip
      refine e_iconst 48 dX12_match_47 rfl ?_
      refine e_istore (lsn := [(4, _), (0, _), (1, _), (2, _), (3, _)]) 50 dX12_match_48 (by decide) rfl rfl ?_
      refine e_iconst 51 dX12_match_50 rfl ?_
      refine e_istore (lsn := [(5, _), (4, _), (0, _), (1, _), (2, _), (3, _)]) 53 dX12_match_51 (by decide) rfl rfl ?_
      refine e_ls (ls2 := [(0, _), (1, _), (2, _), (3, _), (4, _), (5, _)]) rfl ?_
      refine lm_one hC hi h htt (by omega) hc (fun Z b z hZ hU hb => ?_) (M 929 709).toNat 0 (by omega) (by omega) Y hS hP (fun p a b => by omega)
      have hCY := hZ.cr hC
      have e9 := hZ.row
      have hn := hCY.cnt
      have hg := hCY.rng
      have e71 : Z 929 3895 = M 929 3895 := by rw [e9]
      have e72 : Z 929 709 = M 929 709 := by rw [e9]
      refine e_aload_n (i := 0) 129 dX12_match_128 rfl rfl rfl ?_
      refine e_getr (j := 29) 132 fl_12_63 dX12_match_129 at_928 rfl rfl tp_928_29 rfl ?_
      refine e_iload_n (i := 3) 133 dX12_match_132 rfl rfl rfl ?_
      refine e_iload 135 dX12_match_133 rfl rfl ?_
      refine e_iast 136 dX12_match_135 ar_944 (by omega) (by omega) (by omega) rfl ?_
      refine e_iinc (lsn := [(3, _), (0, _), (1, _), (2, _), (4, _), (5, _)]) 139 dX12_match_136 rfl (by decide) rfl rfl ?_
      refine e_goto 42 dX12_match_139 (by decide) ?_
      refine e_ls (ls2 := [(0, _), (1, _), (2, _), (3, _)]) rfl ?_
      refine ih (t + 1) (by omega) _ (hZ.set (by omega)) (fun u z a => ?_) _ (by omega)
      by_cases e : u = tt
      · rw [e, jset_same, hb, htt]
      · rw [jset_j e]
        exact hU u z (by omega)

theorem m_match {M : jM} {Q : Int → jM → Prop} (hC : CR M) (ht : M 928 0 = 0) {i : Int} (hi : -2147483648 ≤ i ∧ i ≤ 2147483647) (h : ∀ Z : jM, Scr M Z → Q (if i = -1 then (cP (fun u => gM (M 929) u ≠ -1) (M 929 3895).toNat : Nat) else if 0 ≤ i ∧ i < M 929 3895 then gM (M 929) i else -1) Z) : jCt yX12_match cX12_match 6 (some .int) 67 [jR 928, jI i] M Q := by
  refine jCt_of mt_yX12_match (Nat.le_of_ble_eq_true rfl) (fun X => ?_)
  have hn := hC.cnt
  have hg := hC.rng
  have hct0 := cP_top (fun u => gM (M 929) u ≠ -1) (M 929 3895).toNat
  refine e_aload_n (i := 0) 1 dX12_match_0 rfl rfl rfl ?_
  refine e_iconst 2 dX12_match_1 rfl ?_
  refine e_put0 (j := 0) 5 fl_12_1 dX12_match_2 at_928 rfl rfl rfl (by decide) ht rfl ?_
  refine e_aload_n (i := 0) 6 dX12_match_5 rfl rfl rfl ?_
  refine e_iconst 7 dX12_match_6 rfl ?_
  refine e_callV 10 mt_yX12_matches mv_yX12_matches wd_1787 (by decide) dX12_match_7 at_928 jc_12 rfl rfl rfl (Nat.le_of_ble_eq_true rfl) (jroom (by decide)) rfl (m_matches hC (f := 0) (by omega) rfl Scr.rf (fun u z a => by omega) (fun Z7 hZ7 hU7 => ?_))
  dsimp only [jpush]
  have hg := (hZ7.cr hC).rng
  have e9 := hZ7.row
  rw [e9] at hg
  have e71 : Z7 929 3895 = M 929 3895 := by rw [e9]
  have e72 : Z7 929 709 = M 929 709 := by rw [e9]
  have h7 := h Z7 hZ7
  refine e_istore_n (i := 2) (lsn := [(2, _), (0, _), (1, _)]) 11 dX12_match_10 rfl (by decide) rfl rfl ?_
  refine e_iload_n (i := 1) 12 dX12_match_11 rfl rfl rfl ?_
  refine e_iconst 13 dX12_match_12 rfl ?_
  refine e_icmp_ne 16 18 dX12_match_13 (by omega) (by decide) (by decide) rfl (fun b13 => ?_) (fun b13 => ?_)
  · skip
    refine e_iload_n (i := 1) 19 dX12_match_18 rfl rfl rfl ?_
    refine e_i2l 20 dX12_match_19 (by omega) rfl ?_
    refine e_lconst0 21 dX12_match_20 rfl ?_
    refine e_aload_n (i := 0) 22 dX12_match_21 rfl rfl rfl ?_
    refine e_getr (j := 1) 25 fl_12_13 dX12_match_22 at_928 rfl rfl tp_928_1 rfl ?_
    refine e_sipush 28 dX12_match_25 (by decide) rfl ?_
    refine e_iald 29 dX12_match_28 ar_929 (by decide) (by decide) rfl (fun r28 => ?_)
    refine e_iconst 30 dX12_match_29 rfl ?_
    refine e_isub 31 dX12_match_30 rfl ?_
    refine e_i2l 32 dX12_match_31 (by omega) rfl ?_
    refine e_callS 35 mt_yX12_within ms_yX12_within wd_1390 (by decide) dX12_match_32 rfl rfl (Nat.le_of_ble_eq_true rfl) (jroom (by decide)) rfl (m_within (by omega) (by omega) (by omega) (fun w32 => ?_) (fun w32 => ?_))
    · dsimp only [jpush]
      refine e_if_ne 38 40 dX12_match_35 (by decide) (by decide) rfl (fun _ => ?_) (fun h => absurd h (by decide))
      refine e_iconst 41 dX12_match_40 rfl ?_
      refine e_istore_n (i := 3) (lsn := [(3, _), (2, _), (0, _), (1, _)]) 42 dX12_match_41 rfl (by decide) rfl rfl ?_
      refine e_ls (ls2 := [(0, _), (1, _), (2, _), (3, _)]) rfl ?_
      refine lm_match hC (by omega) (fun Z hZ => ?_) rfl (i + 1).toNat 0 (by omega) Z7 hZ7 (fun u z a => hU7 u z a) _ rfl
      have h8 := h Z hZ
      rw [if_neg (by omega), if_pos (by omega)] at h8
      exact h8
    · dsimp only [jpush]
      refine e_if_ne 38 40 dX12_match_35 (by decide) (by decide) rfl (fun h => absurd h (by decide)) (fun _ => ?_)
      refine e_iconst 39 dX12_match_38 rfl ?_
      refine e_iret dX12_match_39 ?_
      rw [if_neg (by omega), if_neg (by omega)] at h7
      exact h7
  · skip
    refine e_iload_n (i := 2) 17 dX12_match_16 rfl rfl rfl ?_
    refine e_iret dX12_match_17 ?_
    rw [if_pos (by omega)] at h7
    exact h7

theorem p_match {M : jM} (hI : Inv M) {i : Int} (hi : -2147483648 ≤ i ∧ i ≤ 2147483647) : jCt yX11_match cX11_match 2 (some .int) 5 [jR 0, jI i] M (fun z M1 => jCt yX12_match cX12_match 6 (some .int) 67 [jR 928, jI i] M1 (fun z2 M2 => z = z2 ∧ Inv M2)) := by
  refine c_match hI.cr hi (fun Y hY => ?_)
  refine m_match (hY.cr hI.cr) (by rw [hY 928 0 (by omega) (by omega)]; exact hI.1) hi (fun Z hZ => ?_)
  have e9 := hY.row
  rw [e9]
  exact ⟨rfl, (hI.scr hY).scr hZ⟩

