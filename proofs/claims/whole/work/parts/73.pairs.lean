/-! MATCHED *** the reference *** -/
theorem m_mayBe {t p : Int} {M Y : jM} {Q : Int → jM → Prop} (hC : CR M) (hS : Scr M Y) (ht : 0 ≤ t ∧ t < M 929 3895) (hp : 0 ≤ p ∧ p < M 929 709) (h1 : rMbP (M 929) t p → Q 1 Y) (h0 : ¬ rMbP (M 929) t p → Q 0 Y) : jCt yX12_mayBe cX12_mayBe 3 (some .boolean) 1 [jR 928, jI t, jI p] Y Q := by
  refine jCt_of mt_yX12_mayBe (Nat.le_of_ble_eq_true rfl) (fun X => ?_)
  have hCY := hS.cr hC
  have e9 := hS.row
  have hn := hCY.cnt
  have hg := hCY.rng
  have e71 : Y 929 3895 = M 929 3895 := by rw [e9]
  have e72 : Y 929 709 = M 929 709 := by rw [e9]
  unfold rMbP at h1 h0
  rw [← e9] at h1 h0
  refine e_aload_n (i := 0) 1 dX12_mayBe_0 rfl rfl rfl ?_
  refine e_getr (j := 1) 4 fl_12_13 dX12_mayBe_1 at_928 rfl rfl tp_928_1 rfl ?_
  refine e_sipush 7 dX12_mayBe_4 (by decide) rfl ?_
  refine e_iload_n (i := 2) 8 dX12_mayBe_7 rfl rfl rfl ?_
  refine e_iadd 9 dX12_mayBe_8 rfl ?_
  refine e_iald 10 dX12_mayBe_9 ar_929 (by omega) (by omega) rfl (fun r9 => ?_)
  refine e_if_ne 13 63 dX12_mayBe_10 (by omega) (by decide) rfl (fun b10 => ?_) (fun b10 => ?_)
  · skip
    refine e_iconst 64 dX12_mayBe_63 rfl ?_
    refine e_zret dX12_mayBe_64 (by decide) ?_
    first | exact h1 (by omega) | exact h0 (by omega)
  · skip
    refine e_aload_n (i := 0) 14 dX12_mayBe_13 rfl rfl rfl ?_
    refine e_getr (j := 1) 17 fl_12_13 dX12_mayBe_14 at_928 rfl rfl tp_928_1 rfl ?_
    refine e_sipush 20 dX12_mayBe_17 (by decide) rfl ?_
    refine e_iload_n (i := 2) 21 dX12_mayBe_20 rfl rfl rfl ?_
    refine e_iadd 22 dX12_mayBe_21 rfl ?_
    refine e_iald 23 dX12_mayBe_22 ar_929 (by omega) (by omega) rfl (fun r22 => ?_)
    refine e_aload_n (i := 0) 24 dX12_mayBe_23 rfl rfl rfl ?_
    refine e_getr (j := 1) 27 fl_12_13 dX12_mayBe_24 at_928 rfl rfl tp_928_1 rfl ?_
    refine e_sipush 30 dX12_mayBe_27 (by decide) rfl ?_
    refine e_iload_n (i := 1) 31 dX12_mayBe_30 rfl rfl rfl ?_
    refine e_iadd 32 dX12_mayBe_31 rfl ?_
    refine e_iald 33 dX12_mayBe_32 ar_929 (by omega) (by omega) rfl (fun r32 => ?_)
    refine e_icmp_ne 36 63 dX12_mayBe_33 (by omega) (by omega) (by decide) rfl (fun b33 => ?_) (fun b33 => ?_)
    · skip
      refine e_iconst 64 dX12_mayBe_63 rfl ?_
      refine e_zret dX12_mayBe_64 (by decide) ?_
      first | exact h1 (by omega) | exact h0 (by omega)
    · skip
      refine e_aload_n (i := 0) 37 dX12_mayBe_36 rfl rfl rfl ?_
      refine e_getr (j := 1) 40 fl_12_13 dX12_mayBe_37 at_928 rfl rfl tp_928_1 rfl ?_
      refine e_sipush 43 dX12_mayBe_40 (by decide) rfl ?_
      refine e_iload_n (i := 2) 44 dX12_mayBe_43 rfl rfl rfl ?_
      refine e_iadd 45 dX12_mayBe_44 rfl ?_
      refine e_iald 46 dX12_mayBe_45 ar_929 (by omega) (by omega) rfl (fun r45 => ?_)
      refine e_aload_n (i := 0) 47 dX12_mayBe_46 rfl rfl rfl ?_
      refine e_getr (j := 1) 50 fl_12_13 dX12_mayBe_47 at_928 rfl rfl tp_928_1 rfl ?_
      refine e_sipush 53 dX12_mayBe_50 (by decide) rfl ?_
      refine e_iload_n (i := 1) 54 dX12_mayBe_53 rfl rfl rfl ?_
      refine e_iadd 55 dX12_mayBe_54 rfl ?_
      refine e_iald 56 dX12_mayBe_55 ar_929 (by omega) (by omega) rfl (fun r55 => ?_)
      refine e_icmp_lt 59 63 dX12_mayBe_56 (by omega) (by omega) (by decide) rfl (fun b56 => ?_) (fun b56 => ?_)
      · skip
        refine e_iconst 64 dX12_mayBe_63 rfl ?_
        refine e_zret dX12_mayBe_64 (by decide) ?_
        first | exact h1 (by omega) | exact h0 (by omega)
      · skip
        refine e_iconst 60 dX12_mayBe_59 rfl ?_
        refine e_goto 64 dX12_mayBe_60 (by decide) ?_
        refine e_zret dX12_mayBe_64 (by decide) ?_
        first | exact h1 (by omega) | exact h0 (by omega)

def MF (M Y : jM) : Prop := Scr M Y ∧ ∀ p, 0 ≤ p → p < M 929 709 → (Y 945 p = 0 ∨ Y 945 p = 1) ∧ -1 ≤ Y 943 p ∧ Y 943 p ≤ 12
theorem MF.lk {M Y : jM} (h : MF M Y) {i : Int} : MF M (jset Y 945 i 1) := ⟨h.1.set (by omega), fun p a b => by
  have q := h.2 p a b
  rw [show jset Y 945 i 1 943 p = Y 943 p from jset_k (by omega)]
  refine ⟨?_, q.2⟩
  by_cases e : p = i
  · rw [e, jset_same]
    exact Or.inr rfl
  · rw [jset_j e]
    exact q.1⟩
theorem MF.th {M Y : jM} (h : MF M Y) {i v : Int} (hv : -1 ≤ v ∧ v ≤ 12) : MF M (jset Y 943 i v) := ⟨h.1.set (by omega), fun p a b => by
  have q := h.2 p a b
  rw [show jset Y 943 i v 945 p = Y 945 p from jset_k (by omega)]
  refine ⟨q.1, ?_⟩
  by_cases e : p = i
  · rw [e, jset_same]
    exact hv
  · rw [jset_j e]
    exact q.2⟩
theorem lk_fun {Y : jM} {i : Int} : (fun p => jset Y 945 i 1 945 p = 1) = (fun p => p = i ∨ Y 945 p = 1) := funext fun p => propext (by
  by_cases e : p = i
  · rw [e, jset_same]
    exact ⟨fun _ => Or.inl rfl, fun _ => rfl⟩
  · rw [jset_j e]
    exact ⟨fun q => Or.inr q, fun q => q.elim (fun z => absurd z e) id⟩)
theorem th_fun {Y : jM} {i v : Int} : jset Y 943 i v 943 = upd1 (Y 943) i v := funext fun p => by
  by_cases e : p = i
  · rw [e, jset_same, u1]
  · rw [jset_j e, u2 e]
theorem row_k {Y : jM} {k i v k2 : Int} (h : k2 ≠ k) : jset Y k i v k2 = Y k2 := funext fun p => jset_k h
/-- what a search may ask and what it leaves, with k pledges not yet looked at -/
def Finds (M : jM) (f : Int) (k : Nat) : Prop := ∀ {Y : jM} {v : Int} {Q : Int → jM → Prop}, MF M Y → KPre (rMbP (M 929)) (Y 943) (fun p => Y 945 p = 1) (M 929 709).toNat (M 929 3895).toNat v → cP (fun p => Y 945 p ≠ 1) (M 929 709).toNat + 1 ≤ k → (∀ Z : jM, MF M Z → Z 944 = Y 944 → KYes (rMbP (M 929)) (Y 943) (fun p => Y 945 p = 1) (Z 943) (fun p => Z 945 p = 1) (M 929 709).toNat (M 929 3895).toNat v f → Q 1 Z) → (∀ Z : jM, MF M Z → Z 944 = Y 944 → Z 943 = Y 943 → KNo (rMbP (M 929)) (Y 943) (fun p => Y 945 p = 1) (fun p => Z 945 p = 1) (M 929 709).toNat v f (M 929 709).toNat → Q 0 Z) → jCt yX12_finds cX12_finds 4 (some .boolean) (k + 1) [jR 928, jI v, jI f] Y Q
theorem cP_lk {Y : jM} {i : Int} {N : Nat} (h0 : 0 ≤ i) (h1 : i < N) (h : Y 945 i ≠ 1) : cP (fun p => jset Y 945 i 1 945 p ≠ 1) N + 1 = cP (fun p => Y 945 p ≠ 1) N := by
  rw [cP_but (P := fun p => Y 945 p ≠ 1) N h0 h1 h]
  congr 1
  refine cP_cong N (fun p a b => ?_)
  by_cases e : p = i
  · rw [e, jset_same]
    exact ⟨fun q => absurd rfl q, fun q => absurd rfl q.2⟩
  · rw [jset_j e]
    exact ⟨fun q => ⟨q, e⟩, fun q => q.1⟩
theorem lm_finds {X : jX} {M : jM} (hC : CR M) {f : Int} (hf : 0 ≤ f ∧ f ≤ 12) {k : Nat} (hR : Finds M f k) {Y : jM} {v : Int} {Q : Int → jM → Prop} (hP : KPre (rMbP (M 929)) (Y 943) (fun p => Y 945 p = 1) (M 929 709).toNat (M 929 3895).toNat v) (h1 : ∀ Z : jM, MF M Z → Z 944 = Y 944 → KYes (rMbP (M 929)) (Y 943) (fun p => Y 945 p = 1) (Z 943) (fun p => Z 945 p = 1) (M 929 709).toNat (M 929 3895).toNat v f → Q 1 Z) (h0 : ∀ Z : jM, MF M Z → Z 944 = Y 944 → Z 943 = Y 943 → KNo (rMbP (M 929)) (Y 943) (fun p => Y 945 p = 1) (fun p => Z 945 p = 1) (M 929 709).toNat v f (M 929 709).toNat → Q 0 Z) : ∀ (n : Nat) (ii : Int), 0 ≤ ii → ii + n = M 929 709 → ∀ Z : jM, MF M Z → Z 943 = Y 943 → Z 944 = Y 944 → KNo (rMbP (M 929)) (Y 943) (fun p => Y 945 p = 1) (fun p => Z 945 p = 1) (M 929 709).toNat v f ii → cP (fun p => Z 945 p ≠ 1) (M 929 709).toNat ≤ k → jE X yX12_finds cX12_finds 4 (some .boolean) (k + 2) Q Z 2 [(0, jR 928), (1, jI v), (2, jI f), (3, jI ii)] [] := by
  intro n
  induction n with
  | zero =>
    intro ii a0 hi Z hZ e3 e4 hK hc
    have hS := hZ.1
    have hCZ := hS.cr hC
    have e9 := hS.row
    have hn := hCZ.cnt
    have hg := hCZ.rng
    have e71 : Z 929 3895 = M 929 3895 := by rw [e9]
    have e72 : Z 929 709 = M 929 709 := by rw [e9]
    have hv := hP.2.2.2
    have eW : ∀ p, Z 943 p = Y 943 p := fun p => by rw [e3]
    refine e_iload_n (i := 3) 3 dX12_finds_2 rfl rfl rfl ?_
    refine e_aload_n (i := 0) 4 dX12_finds_3 rfl rfl rfl ?_
    refine e_getr (j := 1) 7 fl_12_13 dX12_finds_4 at_928 rfl rfl tp_928_1 rfl ?_
    refine e_sipush 10 dX12_finds_7 (by decide) rfl ?_
    refine e_iald 11 dX12_finds_10 ar_929 (by decide) (by decide) rfl (fun r10 => ?_)
    refine e_icmp_ge 14 104 dX12_finds_11 (by omega) (by omega) (by decide) rfl (fun b11 => ?_) (fun b11 => ?_)
    · skip
      refine e_iconst 105 dX12_finds_104 rfl ?_
      refine e_zret dX12_finds_105 (by decide) ?_
      rw [show ii = ((M 929 709).toNat : Int) by omega] at hK
      exact h0 Z hZ e4 e3 hK
    · omega
  | succ n ih =>
    intro ii a0 hi Z hZ e3 e4 hK hc
    have hS := hZ.1
    have hCZ := hS.cr hC
    have e9 := hS.row
    have hn := hCZ.cnt
    have hg := hCZ.rng
    have e71 : Z 929 3895 = M 929 3895 := by rw [e9]
    have e72 : Z 929 709 = M 929 709 := by rw [e9]
    have hv := hP.2.2.2
    have eW : ∀ p, Z 943 p = Y 943 p := fun p => by rw [e3]
    have hZi := hZ.2 ii a0 (by omega)
    refine e_iload_n (i := 3) 3 dX12_finds_2 rfl rfl rfl ?_
    refine e_aload_n (i := 0) 4 dX12_finds_3 rfl rfl rfl ?_
    refine e_getr (j := 1) 7 fl_12_13 dX12_finds_4 at_928 rfl rfl tp_928_1 rfl ?_
    refine e_sipush 10 dX12_finds_7 (by decide) rfl ?_
    refine e_iald 11 dX12_finds_10 ar_929 (by decide) (by decide) rfl (fun r10 => ?_)
    refine e_icmp_ge 14 104 dX12_finds_11 (by omega) (by omega) (by decide) rfl (fun b11 => ?_) (fun b11 => ?_)
    · omega
    · skip
      refine e_aload_n (i := 0) 15 dX12_finds_14 rfl rfl rfl ?_
      refine e_getr (j := 30) 18 fl_12_66 dX12_finds_15 at_928 rfl rfl tp_928_30 rfl ?_
      refine e_iload_n (i := 3) 19 dX12_finds_18 rfl rfl rfl ?_
      refine e_zald 20 dX12_finds_19 ar_945 (by omega) (by omega) rfl (fun r19 => ?_)
      refine e_if_ne 23 98 dX12_finds_20 (by omega) (by decide) rfl (fun b20 => ?_) (fun b20 => ?_)
      · skip
        refine e_iinc (lsn := [(3, _), (0, _), (1, _), (2, _)]) 101 dX12_finds_98 rfl (by decide) rfl rfl ?_
        refine e_goto 2 dX12_finds_101 (by decide) ?_
        refine e_ls (ls2 := [(0, _), (1, _), (2, _), (3, _)]) rfl ?_
        exact ih (ii + 1) (by omega) (by omega) Z hZ e3 e4 (k_no0 hK (fun hm hw => by
          rw [← e3] at hw
          first
            | omega
            | (exfalso; exact w26 hm))) hc
      · skip
        refine e_aload_n (i := 0) 24 dX12_finds_23 rfl rfl rfl ?_
        refine e_iload_n (i := 1) 25 dX12_finds_24 rfl rfl rfl ?_
        refine e_iload_n (i := 3) 26 dX12_finds_25 rfl rfl rfl ?_
        refine e_callV 29 mt_yX12_mayBe mv_yX12_mayBe wd_1795 (by decide) dX12_finds_26 at_928 jc_12 rfl rfl rfl (Nat.le_of_ble_eq_true rfl) (jroom (by omega)) rfl (m_mayBe hC hS (by omega) (by omega) (fun w26 => ?_) (fun w26 => ?_))
        · dsimp only [jpush]
          refine e_if_eq 32 98 dX12_finds_29 (by decide) (by decide) rfl (fun h => absurd h (by decide)) (fun _ => ?_)
          refine e_aload_n (i := 0) 33 dX12_finds_32 rfl rfl rfl ?_
          refine e_getr (j := 28) 36 fl_12_60 dX12_finds_33 at_928 rfl rfl tp_928_28 rfl ?_
          refine e_iload_n (i := 3) 37 dX12_finds_36 rfl rfl rfl ?_
          refine e_iald 38 dX12_finds_37 ar_943 (by omega) (by omega) rfl (fun r37 => ?_)
          refine e_iconst 39 dX12_finds_38 rfl ?_
          refine e_icmp_eq 42 55 dX12_finds_39 (by omega) (by decide) (by decide) rfl (fun b39 => ?_) (fun b39 => ?_)
          · skip
            have hii : ii < ((M 929 709).toNat : Int) := by omega
            have hZ1 : MF M (jset Z 945 ii 1) := hZ.lk
            have hn1 : ¬ Z 945 ii = 1 := by omega
            have hcl := cP_lk (Y := Z) (i := ii) (N := (M 929 709).toNat) a0 hii hn1
            refine e_aload_n (i := 0) 56 dX12_finds_55 rfl rfl rfl ?_
            refine e_getr (j := 30) 59 fl_12_66 dX12_finds_56 at_928 rfl rfl tp_928_30 rfl ?_
            refine e_iload_n (i := 3) 60 dX12_finds_59 rfl rfl rfl ?_
            refine e_iconst 61 dX12_finds_60 rfl ?_
            refine e_zast 62 dX12_finds_61 ar_945 (by omega) (by omega) (by decide) rfl ?_
            refine e_aload_n (i := 0) 63 dX12_finds_62 rfl rfl rfl ?_
            refine e_getr (j := 28) 66 fl_12_60 dX12_finds_63 at_928 rfl rfl tp_928_28 rfl ?_
            refine e_iload_n (i := 3) 67 dX12_finds_66 rfl rfl rfl ?_
            refine e_iald 68 dX12_finds_67 ar_943 (by omega) (by omega) rfl (fun r67 => ?_)
            simp (disch := omega) only [jset_k, jset_j, jset_same, true_and, and_true] at r67 ⊢
            refine e_iconst 69 dX12_finds_68 rfl ?_
            refine e_icmp_eq 72 89 dX12_finds_69 (by omega) (by decide) (by decide) rfl (fun b69 => ?_) (fun b69 => ?_)
            · skip
              refine e_aload_n (i := 0) 90 dX12_finds_89 rfl rfl rfl ?_
              refine e_getr (j := 28) 93 fl_12_60 dX12_finds_90 at_928 rfl rfl tp_928_28 rfl ?_
              refine e_iload_n (i := 3) 94 dX12_finds_93 rfl rfl rfl ?_
              refine e_iload_n (i := 1) 95 dX12_finds_94 rfl rfl rfl ?_
              refine e_iast 96 dX12_finds_95 ar_943 (by omega) (by omega) (by omega) rfl ?_
              refine e_iconst 97 dX12_finds_96 rfl ?_
              refine e_zret dX12_finds_97 (by decide) ?_
              first
                | (exfalso; omega)
                | (refine h1 _ (hZ1.th (by omega)) (by rw [row_k (by omega), row_k (by omega)]; exact e4) ?_
                   rw [th_fun, row_k (by omega), row_k (by omega), lk_fun, e3]
                   exact k_yes0 hf.1 hP hK a0 hii hn1 w26 (by rw [← e3]; omega))
            · skip
              have hP1 : KPre (rMbP (M 929)) (jset Z 945 ii 1 943) (fun p => jset Z 945 ii 1 945 p = 1) (M 929 709).toNat (M 929 3895).toNat (Z 943 ii) := by
                rw [row_k (by omega), lk_fun, e3]
                exact k_pre hP a0 hii (by rw [← e3]; omega)
              have hc1 : cP (fun p => jset Z 945 ii 1 945 p ≠ 1) (M 929 709).toNat + 1 ≤ k := by omega
              refine e_aload_n (i := 0) 73 dX12_finds_72 rfl rfl rfl ?_
              refine e_aload_n (i := 0) 74 dX12_finds_73 rfl rfl rfl ?_
              refine e_getr (j := 28) 77 fl_12_60 dX12_finds_74 at_928 rfl rfl tp_928_28 rfl ?_
              refine e_iload_n (i := 3) 78 dX12_finds_77 rfl rfl rfl ?_
              refine e_iald 79 dX12_finds_78 ar_943 (by omega) (by omega) rfl (fun r78 => ?_)
              simp (disch := omega) only [jset_k, jset_j, jset_same, true_and, and_true] at r78 ⊢
              refine e_iload_n (i := 2) 80 dX12_finds_79 rfl rfl rfl ?_
              refine e_callV 83 mt_yX12_finds mv_yX12_finds wd_1791 (by decide) dX12_finds_80 at_928 jc_12 rfl rfl rfl (Nat.le_of_ble_eq_true rfl) (jroom (by omega)) rfl (hR hZ1 hP1 hc1 (fun Z280 hM280 hE280 hK280 => ?_) (fun Z280 hM280 hE280 hF280 hK280 => ?_))
              · dsimp only [jpush]
                (try simp (disch := omega) only [jset_k, jset_j, jset_same, true_and, and_true] at Z280 hM280 hE280 hK280)
                refine e_if_ne 86 89 dX12_finds_83 (by decide) (by decide) rfl (fun _ => ?_) (fun h => absurd h (by decide))
                refine e_aload_n (i := 0) 90 dX12_finds_89 rfl rfl rfl ?_
                refine e_getr (j := 28) 93 fl_12_60 dX12_finds_90 at_928 rfl rfl tp_928_28 rfl ?_
                refine e_iload_n (i := 3) 94 dX12_finds_93 rfl rfl rfl ?_
                refine e_iload_n (i := 1) 95 dX12_finds_94 rfl rfl rfl ?_
                refine e_iast 96 dX12_finds_95 ar_943 (by omega) (by omega) (by omega) rfl ?_
                refine e_iconst 97 dX12_finds_96 rfl ?_
                refine e_zret dX12_finds_97 (by decide) ?_
                first
                  | (exfalso; omega)
                  | (refine h1 _ (hM280.th (by omega)) (by rw [row_k (by omega), hE280, row_k (by omega)]; exact e4) ?_
                     rw [th_fun, row_k (by omega)]
                     rw [row_k (by omega), lk_fun, e3] at hK280
                     exact k_yes1 hf.1 hP hK a0 hii hn1 w26 (by rw [← e3]; omega) hK280)
              · dsimp only [jpush]
                (try simp (disch := omega) only [jset_k, jset_j, jset_same, true_and, and_true] at Z280 hM280 hE280 hF280 hK280)
                refine e_if_ne 86 89 dX12_finds_83 (by decide) (by decide) rfl (fun h => absurd h (by decide)) (fun _ => ?_)
                refine e_goto 98 dX12_finds_86 (by decide) ?_
                refine e_iinc (lsn := [(3, _), (0, _), (1, _), (2, _)]) 101 dX12_finds_98 rfl (by decide) rfl rfl ?_
                refine e_goto 2 dX12_finds_101 (by decide) ?_
                refine e_ls (ls2 := [(0, _), (1, _), (2, _), (3, _)]) rfl ?_
                first
                  | (exfalso; omega)
                  | (refine ih (ii + 1) (by omega) (by omega) Z280 hM280 (by rw [hF280, row_k (by omega)]; exact e3) (by rw [hE280, row_k (by omega)]; exact e4) ?_ ?_
                     · rw [row_k (by omega), lk_fun, e3] at hK280
                       exact k_no1 hK a0 hii (by rw [← e3]; omega) hK280
                     · have hl : cP (fun p => Z280 945 p ≠ 1) (M 929 709).toNat ≤ cP (fun p => jset Z 945 ii 1 945 p ≠ 1) (M 929 709).toNat := cP_le _ (fun p a b c d => c (hK280.1 p a b d))
                       omega)
          · skip
            refine e_aload_n (i := 0) 43 dX12_finds_42 rfl rfl rfl ?_
            refine e_getr (j := 28) 46 fl_12_60 dX12_finds_43 at_928 rfl rfl tp_928_28 rfl ?_
            refine e_iload_n (i := 3) 47 dX12_finds_46 rfl rfl rfl ?_
            refine e_iald 48 dX12_finds_47 ar_943 (by omega) (by omega) rfl (fun r47 => ?_)
            refine e_iload_n (i := 2) 49 dX12_finds_48 rfl rfl rfl ?_
            refine e_icmp_ge 52 55 dX12_finds_49 (by omega) (by omega) (by decide) rfl (fun b49 => ?_) (fun b49 => ?_)
            · skip
              have hii : ii < ((M 929 709).toNat : Int) := by omega
              have hZ1 : MF M (jset Z 945 ii 1) := hZ.lk
              have hn1 : ¬ Z 945 ii = 1 := by omega
              have hcl := cP_lk (Y := Z) (i := ii) (N := (M 929 709).toNat) a0 hii hn1
              refine e_aload_n (i := 0) 56 dX12_finds_55 rfl rfl rfl ?_
              refine e_getr (j := 30) 59 fl_12_66 dX12_finds_56 at_928 rfl rfl tp_928_30 rfl ?_
              refine e_iload_n (i := 3) 60 dX12_finds_59 rfl rfl rfl ?_
              refine e_iconst 61 dX12_finds_60 rfl ?_
              refine e_zast 62 dX12_finds_61 ar_945 (by omega) (by omega) (by decide) rfl ?_
              refine e_aload_n (i := 0) 63 dX12_finds_62 rfl rfl rfl ?_
              refine e_getr (j := 28) 66 fl_12_60 dX12_finds_63 at_928 rfl rfl tp_928_28 rfl ?_
              refine e_iload_n (i := 3) 67 dX12_finds_66 rfl rfl rfl ?_
              refine e_iald 68 dX12_finds_67 ar_943 (by omega) (by omega) rfl (fun r67 => ?_)
              simp (disch := omega) only [jset_k, jset_j, jset_same, true_and, and_true] at r67 ⊢
              refine e_iconst 69 dX12_finds_68 rfl ?_
              refine e_icmp_eq 72 89 dX12_finds_69 (by omega) (by decide) (by decide) rfl (fun b69 => ?_) (fun b69 => ?_)
              · skip
                refine e_aload_n (i := 0) 90 dX12_finds_89 rfl rfl rfl ?_
                refine e_getr (j := 28) 93 fl_12_60 dX12_finds_90 at_928 rfl rfl tp_928_28 rfl ?_
                refine e_iload_n (i := 3) 94 dX12_finds_93 rfl rfl rfl ?_
                refine e_iload_n (i := 1) 95 dX12_finds_94 rfl rfl rfl ?_
                refine e_iast 96 dX12_finds_95 ar_943 (by omega) (by omega) (by omega) rfl ?_
                refine e_iconst 97 dX12_finds_96 rfl ?_
                refine e_zret dX12_finds_97 (by decide) ?_
                first
                  | (exfalso; omega)
                  | (refine h1 _ (hZ1.th (by omega)) (by rw [row_k (by omega), row_k (by omega)]; exact e4) ?_
                     rw [th_fun, row_k (by omega), row_k (by omega), lk_fun, e3]
                     exact k_yes0 hf.1 hP hK a0 hii hn1 w26 (by rw [← e3]; omega))
              · skip
                have hP1 : KPre (rMbP (M 929)) (jset Z 945 ii 1 943) (fun p => jset Z 945 ii 1 945 p = 1) (M 929 709).toNat (M 929 3895).toNat (Z 943 ii) := by
                  rw [row_k (by omega), lk_fun, e3]
                  exact k_pre hP a0 hii (by rw [← e3]; omega)
                have hc1 : cP (fun p => jset Z 945 ii 1 945 p ≠ 1) (M 929 709).toNat + 1 ≤ k := by omega
                refine e_aload_n (i := 0) 73 dX12_finds_72 rfl rfl rfl ?_
                refine e_aload_n (i := 0) 74 dX12_finds_73 rfl rfl rfl ?_
                refine e_getr (j := 28) 77 fl_12_60 dX12_finds_74 at_928 rfl rfl tp_928_28 rfl ?_
                refine e_iload_n (i := 3) 78 dX12_finds_77 rfl rfl rfl ?_
                refine e_iald 79 dX12_finds_78 ar_943 (by omega) (by omega) rfl (fun r78 => ?_)
                simp (disch := omega) only [jset_k, jset_j, jset_same, true_and, and_true] at r78 ⊢
                refine e_iload_n (i := 2) 80 dX12_finds_79 rfl rfl rfl ?_
                refine e_callV 83 mt_yX12_finds mv_yX12_finds wd_1791 (by decide) dX12_finds_80 at_928 jc_12 rfl rfl rfl (Nat.le_of_ble_eq_true rfl) (jroom (by omega)) rfl (hR hZ1 hP1 hc1 (fun Z280 hM280 hE280 hK280 => ?_) (fun Z280 hM280 hE280 hF280 hK280 => ?_))
                · dsimp only [jpush]
                  (try simp (disch := omega) only [jset_k, jset_j, jset_same, true_and, and_true] at Z280 hM280 hE280 hK280)
                  refine e_if_ne 86 89 dX12_finds_83 (by decide) (by decide) rfl (fun _ => ?_) (fun h => absurd h (by decide))
                  refine e_aload_n (i := 0) 90 dX12_finds_89 rfl rfl rfl ?_
                  refine e_getr (j := 28) 93 fl_12_60 dX12_finds_90 at_928 rfl rfl tp_928_28 rfl ?_
                  refine e_iload_n (i := 3) 94 dX12_finds_93 rfl rfl rfl ?_
                  refine e_iload_n (i := 1) 95 dX12_finds_94 rfl rfl rfl ?_
                  refine e_iast 96 dX12_finds_95 ar_943 (by omega) (by omega) (by omega) rfl ?_
                  refine e_iconst 97 dX12_finds_96 rfl ?_
                  refine e_zret dX12_finds_97 (by decide) ?_
                  first
                    | (exfalso; omega)
                    | (refine h1 _ (hM280.th (by omega)) (by rw [row_k (by omega), hE280, row_k (by omega)]; exact e4) ?_
                       rw [th_fun, row_k (by omega)]
                       rw [row_k (by omega), lk_fun, e3] at hK280
                       exact k_yes1 hf.1 hP hK a0 hii hn1 w26 (by rw [← e3]; omega) hK280)
                · dsimp only [jpush]
                  (try simp (disch := omega) only [jset_k, jset_j, jset_same, true_and, and_true] at Z280 hM280 hE280 hF280 hK280)
                  refine e_if_ne 86 89 dX12_finds_83 (by decide) (by decide) rfl (fun h => absurd h (by decide)) (fun _ => ?_)
                  refine e_goto 98 dX12_finds_86 (by decide) ?_
                  refine e_iinc (lsn := [(3, _), (0, _), (1, _), (2, _)]) 101 dX12_finds_98 rfl (by decide) rfl rfl ?_
                  refine e_goto 2 dX12_finds_101 (by decide) ?_
                  refine e_ls (ls2 := [(0, _), (1, _), (2, _), (3, _)]) rfl ?_
                  first
                    | (exfalso; omega)
                    | (refine ih (ii + 1) (by omega) (by omega) Z280 hM280 (by rw [hF280, row_k (by omega)]; exact e3) (by rw [hE280, row_k (by omega)]; exact e4) ?_ ?_
                       · rw [row_k (by omega), lk_fun, e3] at hK280
                         exact k_no1 hK a0 hii (by rw [← e3]; omega) hK280
                       · have hl : cP (fun p => Z280 945 p ≠ 1) (M 929 709).toNat ≤ cP (fun p => jset Z 945 ii 1 945 p ≠ 1) (M 929 709).toNat := cP_le _ (fun p a b c d => c (hK280.1 p a b d))
                         omega)
            · skip
              refine e_goto 98 dX12_finds_52 (by decide) ?_
              refine e_iinc (lsn := [(3, _), (0, _), (1, _), (2, _)]) 101 dX12_finds_98 rfl (by decide) rfl rfl ?_
              refine e_goto 2 dX12_finds_101 (by decide) ?_
              refine e_ls (ls2 := [(0, _), (1, _), (2, _), (3, _)]) rfl ?_
              exact ih (ii + 1) (by omega) (by omega) Z hZ e3 e4 (k_no0 hK (fun hm hw => by
                rw [← e3] at hw
                first
                  | omega
                  | (exfalso; exact w26 hm))) hc
        · dsimp only [jpush]
          refine e_if_eq 32 98 dX12_finds_29 (by decide) (by decide) rfl (fun _ => ?_) (fun h => absurd h (by decide))
          refine e_iinc (lsn := [(3, _), (0, _), (1, _), (2, _)]) 101 dX12_finds_98 rfl (by decide) rfl rfl ?_
          refine e_goto 2 dX12_finds_101 (by decide) ?_
          refine e_ls (ls2 := [(0, _), (1, _), (2, _), (3, _)]) rfl ?_
          exact ih (ii + 1) (by omega) (by omega) Z hZ e3 e4 (k_no0 hK (fun hm hw => by
            rw [← e3] at hw
            first
              | omega
              | (exfalso; exact w26 hm))) hc

theorem m_finds {M : jM} (hC : CR M) {f : Int} (hf : 0 ≤ f ∧ f ≤ 12) : ∀ k : Nat, Finds M f k := by
  intro k
  induction k with
  | zero =>
    intro Y v Q _ _ h
    omega
  | succ k ih =>
    intro Y v Q hM hP hc h1 h0
    have hv := hP.2.2.2
    have hg := hC.rng
    refine jCt_of mt_yX12_finds (Nat.le_of_ble_eq_true rfl) (fun X => ?_)
    refine e_iconst 1 dX12_finds_0 rfl ?_
    refine e_istore_n (i := 3) (lsn := [(3, _), (0, _), (1, _), (2, _)]) 2 dX12_finds_1 rfl (by decide) rfl rfl ?_
    refine e_ls (ls2 := [(0, _), (1, _), (2, _), (3, _)]) rfl ?_
    exact lm_finds hC hf ih hP h1 h0 (M 929 709).toNat 0 (by omega) (by omega) Y hM rfl rfl ⟨fun p _ _ q => q, fun p a b => by omega, fun p _ _ q r => absurd q r⟩ (by omega)

