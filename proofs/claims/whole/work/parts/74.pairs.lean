/-! MATCHED *** the reference, whole -/
theorem v_put {mb : Int → Int → Prop} {G W : Int → Int} {N T t : Nat} (hG : GrOk mb G N T) (ht : t < T) (hV : VOk mb G W N t t) (hx : G t ≠ -1) : VOk mb G (upd1 W (G t) t) N (t + 1) (t + 1) := by
  obtain ⟨v1, v2, v3, v4⟩ := hV
  have hg := (hG t (by omega) (by omega)).1 hx
  have hfree : W (G t) = -1 := Classical.byContradiction (fun q => by
    have r1 := (v1 (G t) hg.1.1 hg.1.2 q).1
    have r2 := (v3 (W (G t)) r1.1 r1.2).mp ⟨G t, hg.1.1, hg.1.2, rfl⟩
    have r3 := v4 (W (G t)) r1.1 r1.2 r2
    have hg2 := (hG (W (G t)) r1.1 (by omega)).1 r2
    have hd := hg.2.2.1 (W (G t)) r1.1 r1.2
    have := v2 (G (W (G t))) (G t) hg2.1.1 hg2.1.2 hg.1.1 hg.1.2 hd r3
    omega)
  refine ⟨fun p a b c => ?_, fun p q a b c d e x => ?_, fun u a b => ⟨fun ⟨p, x, y, z⟩ => ?_, fun h => ?_⟩, fun u a b c => ?_⟩
  · by_cases e : p = G t
    · rw [e, u1]
      exact ⟨by omega, hg.2.1⟩
    · rw [u2 e] at c ⊢
      have h := v1 p a b c
      exact ⟨by omega, h.2⟩
  · by_cases e1 : p = G t
    · have e2 : q ≠ G t := fun z => e (e1.trans z.symm)
      rw [e1, u1, u2 e2] at x
      have h := (v1 q c d (by omega)).1
      omega
    · by_cases e2 : q = G t
      · rw [e2, u1, u2 e1] at x
        have h := (v1 p a b (by omega)).1
        omega
      · rw [u2 e1, u2 e2] at x
        rw [u2 e1]
        exact v2 p q a b c d e x
  · by_cases e : p = G t
    · rw [e, u1] at z
      rw [← z]
      exact hx
    · rw [u2 e] at z
      have h := (v1 p x y (by omega)).1
      exact (v3 u a (by omega)).mp ⟨p, x, y, z⟩
  · by_cases e : u = t
    · exact ⟨G t, hg.1.1, hg.1.2, by rw [u1, e]⟩
    · obtain ⟨p, x, y, z⟩ := (v3 u a (by omega)).mpr h
      refine ⟨p, x, y, ?_⟩
      rw [u2 (fun w => by rw [w] at z; omega)]
      exact z
  · by_cases e : u = t
    · rw [e, u1]
    · rw [u2 (hg.2.2.1 u a (by omega))]
      exact v4 u a (by omega) c
theorem v_skip {mb : Int → Int → Prop} {G W : Int → Int} {N t f : Nat} (hV : VOk mb G W N t f) (hx : G t = -1) : VOk mb G W N (t + 1) f := by
  obtain ⟨v1, v2, v3, v4⟩ := hV
  refine ⟨fun p a b c => ⟨by have := (v1 p a b c).1; omega, (v1 p a b c).2⟩, v2, fun u a b => ?_, v4⟩
  by_cases e : u = t
  · rw [e]
    refine ⟨fun ⟨p, x, y, z⟩ => ?_, fun h => absurd hx h⟩
    have := (v1 p x y (by omega)).1
    omega
  · exact v3 u a (by omega)
theorem v_skipf {mb : Int → Int → Prop} {G W : Int → Int} {N t : Nat} (hV : VOk mb G W N t t) (hx : G t = -1) : VOk mb G W N (t + 1) (t + 1) := by
  obtain ⟨v1, v2, v3, v4⟩ := v_skip hV hx
  refine ⟨v1, v2, v3, fun u a b c => ?_⟩
  by_cases e : u = t
  · rw [e] at c
    exact absurd hx c
  · exact v4 u a (by omega) c
theorem v_pre {mb : Int → Int → Prop} {G W : Int → Int} {L : Int → Prop} {N T t f : Nat} (hV : VOk mb G W N t f) (ht : t < T) : KPre mb W L N T t := by
  obtain ⟨v1, v2, v3, v4⟩ := hV
  refine ⟨fun p a b c => ⟨by have := (v1 p a b c).1; omega, (v1 p a b c).2⟩, v2, fun p a b c => ?_, by omega, by omega⟩
  have := (v1 p a b (by omega)).1
  omega
theorem v_yes {mb : Int → Int → Prop} {kd wk mk md G W W2 : Int → Int} {C L L2 : Int → Prop} {N T t f : Nat} (hm : MbOk mb kd wk mk md C N) (hG : GrOk mb G N T) (ht : t < T) (hf : f ≤ t) (hV : VOk mb G W N t f) (hY : KYes mb W L W2 L2 N T t f) : G t ≠ -1 ∧ VOk mb G W2 N (t + 1) f := by
  obtain ⟨v1, v2, v3, v4⟩ := hV
  obtain ⟨y1, y2, y3, y4, y5, y6⟩ := hY
  have hne : ∀ p : Int, 0 ≤ p → p < N → W p ≠ t := fun p a b c => by
    have := (v1 p a b (by omega)).1
    omega
  have hx : G t ≠ -1 := by
    refine kuhn_yes hm hG ht (W := W2) (fun p a b c => (y2 p a b (hne p a b) c).2) (fun u a b c => ?_) ?_
    · obtain ⟨p, x, y, z, w⟩ := (y5 u a (by omega)).mpr ((v3 u a b).mpr c)
      exact ⟨p, x, y, w⟩
    · obtain ⟨p, x, y, z, w⟩ := y4
      exact ⟨p, x, y, w⟩
  refine ⟨hx, fun p a b c => ?_, fun p q a b c d e x => y3 p q a b c d e (hne p a b) (hne q c d) x, fun u a b => ?_, fun u a b c => ?_⟩
  · have h := y2 p a b (hne p a b) c
    refine ⟨⟨h.1.1, ?_⟩, h.2⟩
    by_cases e : W2 p = t
    · omega
    · obtain ⟨q, q0, q1, q2⟩ := (y5 (W2 p) h.1.1 e).mp ⟨p, a, b, hne p a b, rfl⟩
      have := (v1 q q0 q1 (by omega)).1
      omega
  · by_cases e : u = t
    · rw [e]
      obtain ⟨p, x, y, z, w⟩ := y4
      exact ⟨fun _ => hx, fun _ => ⟨p, x, y, w⟩⟩
    · have h5 := v3 u a (by omega)
      refine ⟨fun ⟨p, x, y, z⟩ => h5.mp ((y5 u a e).mp ⟨p, x, y, hne p x y, z⟩), fun h => ?_⟩
      obtain ⟨p, x, y, z, w⟩ := (y5 u a e).mpr (h5.mpr h)
      exact ⟨p, x, y, w⟩
  · have hg := (hG u a (by omega)).1 c
    have h := v4 u a b c
    rw [y6 (G u) hg.1.1 hg.1.2 (by omega) (by omega)]
    exact h
theorem v_no {mb : Int → Int → Prop} {kd wk mk md G W : Int → Int} {C L L2 : Int → Prop} {N T t f : Nat} (hm : MbOk mb kd wk mk md C N) (hG : GrOk mb G N T) (ht : t < T) (hf : f ≤ t) (hV : VOk mb G W N t f) (hL : ∀ p : Int, 0 ≤ p → p < N → ¬ L p) (hN : KNo mb W L L2 N t f N) : G t = -1 :=
  kuhn_no hm hG ht hf hV (fun p a b c d => hN.2.1 p a b c d) (fun p a b c => hN.2.2 p a b c (hL p a b))
theorem lm_clear {X : jX} {M : jM} {Q : Int → jM → Prop} (hC : CR M) {f c t : Int} {Y0 : jM} (h : ∀ Y : jM, Scr M Y → Y 944 = Y0 944 → Y 943 = Y0 943 → (∀ p, 0 ≤ p → p < M 929 709 → Y 945 p = 0) → jE X yX12_matches cX12_matches 5 (some .int) 66 Q Y 114 [(0, jR 928), (1, jI f), (2, jI c), (3, jI t)] []) : ∀ (n : Nat) (ii : Int), 0 ≤ ii → ii + n = M 929 709 → ∀ Y : jM, Scr M Y → Y 944 = Y0 944 → Y 943 = Y0 943 → (∀ p, 0 ≤ p → p < ii → Y 945 p = 0) → jE X yX12_matches cX12_matches 5 (some .int) 66 Q Y 87 [(0, jR 928), (1, jI f), (2, jI c), (3, jI t), (4, jI ii)] [] := by
  intro n
  induction n with
  | zero =>
    intro ii a0 hi Y hS e4 e3 hz
    have hCY := hS.cr hC
    have e9 := hS.row
    have hn := hCY.cnt
    have hg := hCY.rng
    have e71 : Y 929 3895 = M 929 3895 := by rw [e9]
    have e72 : Y 929 709 = M 929 709 := by rw [e9]
    refine e_iload 89 dX12_matches_87 rfl rfl ?_
    refine e_aload_n (i := 0) 90 dX12_matches_89 rfl rfl rfl ?_
    refine e_getr (j := 1) 93 fl_12_13 dX12_matches_90 at_928 rfl rfl tp_928_1 rfl ?_
    refine e_sipush 96 dX12_matches_93 (by decide) rfl ?_
    refine e_iald 97 dX12_matches_96 ar_929 (by decide) (by decide) rfl (fun r96 => ?_)
    refine e_icmp_ge 100 114 dX12_matches_97 (by omega) (by omega) (by decide) rfl (fun b97 => ?_) (fun b97 => ?_)
    · skip
      refine e_ls (ls2 := [(0, _), (1, _), (2, _), (3, _)]) rfl ?_
      exact h Y hS e4 e3 (fun p a b => hz p a (by omega))
    · omega
  | succ n ih =>
    intro ii a0 hi Y hS e4 e3 hz
    have hCY := hS.cr hC
    have e9 := hS.row
    have hn := hCY.cnt
    have hg := hCY.rng
    have e71 : Y 929 3895 = M 929 3895 := by rw [e9]
    have e72 : Y 929 709 = M 929 709 := by rw [e9]
    refine e_iload 89 dX12_matches_87 rfl rfl ?_
    refine e_aload_n (i := 0) 90 dX12_matches_89 rfl rfl rfl ?_
    refine e_getr (j := 1) 93 fl_12_13 dX12_matches_90 at_928 rfl rfl tp_928_1 rfl ?_
    refine e_sipush 96 dX12_matches_93 (by decide) rfl ?_
    refine e_iald 97 dX12_matches_96 ar_929 (by decide) (by decide) rfl (fun r96 => ?_)
    refine e_icmp_ge 100 114 dX12_matches_97 (by omega) (by omega) (by decide) rfl (fun b97 => ?_) (fun b97 => ?_)
    · omega
    · skip
      refine e_aload_n (i := 0) 101 dX12_matches_100 rfl rfl rfl ?_
      refine e_getr (j := 30) 104 fl_12_66 dX12_matches_101 at_928 rfl rfl tp_928_30 rfl ?_
      refine e_iload 106 dX12_matches_104 rfl rfl ?_
      refine e_iconst 107 dX12_matches_106 rfl ?_
      refine e_zast 108 dX12_matches_107 ar_945 (by omega) (by omega) (by decide) rfl ?_
      refine e_iinc (lsn := [(4, _), (0, _), (1, _), (2, _), (3, _)]) 111 dX12_matches_108 rfl (by decide) rfl rfl ?_
      refine e_goto 87 dX12_matches_111 (by decide) ?_
      refine e_ls (ls2 := [(0, _), (1, _), (2, _), (3, _), (4, _)]) rfl ?_
      refine ih (ii + 1) (by omega) (by omega) _ (hS.set (by omega)) (by rw [row_k (by omega)]; exact e4) (by rw [row_k (by omega)]; exact e3) (fun p a b => ?_)
      by_cases e : p = ii
      · rw [e, jset_same]
      · rw [jset_j e]
        exact hz p a (by omega)

theorem lm_m3 {X : jX} {M : jM} {Q : Int → jM → Prop} (hC : CR M) {f : Nat} (hf : f ≤ (M 929 3895).toNat) (h : ∀ Z : jM, Scr M Z → (∀ u : Int, 0 ≤ u → u < (f : Int) → Z 944 u = gM (M 929) u) → Q (cP (fun u => gM (M 929) u ≠ -1) (M 929 3895).toNat : Nat) Z) : ∀ n t : Nat, (t : Int) + n = M 929 3895 → f ≤ t → ∀ Y : jM, Scr M Y → (∀ u : Int, 0 ≤ u → u < (f : Int) → Y 944 u = gM (M 929) u) → VOk (rMbP (M 929)) (gM (M 929)) (Y 943) (M 929 709).toNat t f → ∀ c ii : Int, ii = t → c = (cP (fun u => gM (M 929) u ≠ -1) t : Nat) → jE X yX12_matches cX12_matches 5 (some .int) 66 Q Y 72 [(0, jR 928), (1, jI f), (2, jI c), (3, jI ii)] [] := by
  intro n
  induction n with
  | zero =>
    intro t hi hft Y hS hP hV c ii hii hc
    have hCY := hS.cr hC
    have e9 := hS.row
    have hn := hCY.cnt
    have hg := hCY.rng
    have e71 : Y 929 3895 = M 929 3895 := by rw [e9]
    have e72 : Y 929 709 = M 929 709 := by rw [e9]
    have hmb := mb_ok hC.1
    have hgr := gM_ok (a := M 929)
    have hf2 : (f : Int) ≤ M 929 3895 := by omega
    have e : (M 929 3895).toNat = t := by omega
    have h := h Y hS hP
    rw [e, ← hc] at h
    refine e_iload_n (i := 3) 73 dX12_matches_72 rfl rfl rfl ?_
    refine e_aload_n (i := 0) 74 dX12_matches_73 rfl rfl rfl ?_
    refine e_getr (j := 1) 77 fl_12_13 dX12_matches_74 at_928 rfl rfl tp_928_1 rfl ?_
    refine e_sipush 80 dX12_matches_77 (by decide) rfl ?_
    refine e_iald 81 dX12_matches_80 ar_929 (by decide) (by decide) rfl (fun r80 => ?_)
    refine e_icmp_ge 84 137 dX12_matches_81 (by omega) (by omega) (by decide) rfl (fun b81 => ?_) (fun b81 => ?_)
    · skip
      refine e_iload_n (i := 2) 138 dX12_matches_137 rfl rfl rfl ?_
      refine e_iret dX12_matches_138 ?_
      exact h
    · omega
  | succ n ih =>
    intro t hi hft Y hS hP hV c ii hii hc
    have hCY := hS.cr hC
    have e9 := hS.row
    have hn := hCY.cnt
    have hg := hCY.rng
    have e71 : Y 929 3895 = M 929 3895 := by rw [e9]
    have e72 : Y 929 709 = M 929 709 := by rw [e9]
    have hmb := mb_ok hC.1
    have hgr := gM_ok (a := M 929)
    have hf2 : (f : Int) ≤ M 929 3895 := by omega
    have hct0 := cP_top (fun u => gM (M 929) u ≠ -1) t
    refine e_iload_n (i := 3) 73 dX12_matches_72 rfl rfl rfl ?_
    refine e_aload_n (i := 0) 74 dX12_matches_73 rfl rfl rfl ?_
    refine e_getr (j := 1) 77 fl_12_13 dX12_matches_74 at_928 rfl rfl tp_928_1 rfl ?_
    refine e_sipush 80 dX12_matches_77 (by decide) rfl ?_
    refine e_iald 81 dX12_matches_80 ar_929 (by decide) (by decide) rfl (fun r80 => ?_)
    refine e_icmp_ge 84 137 dX12_matches_81 (by omega) (by omega) (by decide) rfl (fun b81 => ?_) (fun b81 => ?_)
    · omega
    · skip
      refine e_iconst 85 dX12_matches_84 rfl ?_
      refine e_istore (lsn := [(4, _), (0, _), (1, _), (2, _), (3, _)]) 87 dX12_matches_85 (by decide) rfl rfl ?_
      refine e_ls (ls2 := [(0, _), (1, _), (2, _), (3, _), (4, _)]) rfl ?_
      refine lm_clear hC (Y0 := Y) (fun Y2 hS2 e42 e32 hz2 => ?_) (M 929 709).toNat 0 (by omega) (by omega) Y hS rfl rfl (fun p a b => by omega)
      have hMF : MF M Y2 := ⟨hS2, fun p a b => ⟨Or.inl (hz2 p a b), by
        have q := hV.1 p a (by omega)
        rw [e32]
        by_cases e : Y 943 p = -1
        · omega
        · have := (q e).1
          omega⟩⟩
      have hPre : KPre (rMbP (M 929)) (Y2 943) (fun p => Y2 945 p = 1) (M 929 709).toNat (M 929 3895).toNat ii := by
        rw [e32, hii]
        exact v_pre hV (by omega)
      have hct := cP_top (fun p => Y2 945 p ≠ 1) (M 929 709).toNat
      refine e_iload_n (i := 2) 115 dX12_matches_114 rfl rfl rfl ?_
      refine e_aload_n (i := 0) 116 dX12_matches_115 rfl rfl rfl ?_
      refine e_iload_n (i := 3) 117 dX12_matches_116 rfl rfl rfl ?_
      refine e_iload_n (i := 1) 118 dX12_matches_117 rfl rfl rfl ?_
      refine e_callV 121 mt_yX12_finds mv_yX12_finds wd_1791 (by decide) dX12_matches_118 at_928 jc_12 rfl rfl rfl (Nat.le_of_ble_eq_true rfl) (jroom (by decide)) rfl (m_finds hC (by omega) 61 hMF hPre (by omega) (fun Z118 hM118 hE118 hK118 => ?_) (fun Z118 hM118 hE118 hG118 hK118 => ?_))
      · dsimp only [jpush]
        (try simp (disch := omega) only [jset_k, jset_j, jset_same, true_and, and_true] at Z118 hM118 hE118 hK118)
        first
         | (exfalso; omega)
         | (skip
            refine e_if_eq 124 128 dX12_matches_121 (by decide) (by decide) rfl (fun h => absurd h (by decide)) (fun _ => ?_)
            refine e_iconst 125 dX12_matches_124 rfl ?_
            refine e_goto 129 dX12_matches_125 (by decide) ?_
            refine e_iadd 130 dX12_matches_129 rfl ?_
            refine e_istore_n (i := 2) (lsn := [(2, _), (0, _), (1, _), (3, _)]) 131 dX12_matches_130 rfl (by decide) rfl rfl ?_
            refine e_iinc (lsn := [(3, _), (2, _), (0, _), (1, _)]) 134 dX12_matches_131 rfl (by decide) rfl rfl ?_
            refine e_goto 72 dX12_matches_134 (by decide) ?_
            refine e_ls (ls2 := [(0, _), (1, _), (2, _), (3, _)]) rfl ?_
            first
              | (exfalso; omega)
              | (rw [e32, hii] at hK118
                 have hv := v_yes hmb hgr (by omega) hft hV hK118
                 refine ih (t + 1) (by omega) (by omega) _ hM118.1 (fun u z a => by rw [hE118, e42]; exact hP u z a) hv.2 _ _ (by omega) ?_
                 rw [cP_yes (P := fun u => gM (M 929) u ≠ -1) hv.1, hc]
                 omega))
      · dsimp only [jpush]
        (try simp (disch := omega) only [jset_k, jset_j, jset_same, true_and, and_true] at Z118 hM118 hE118 hG118 hK118)
        first
         | (exfalso; omega)
         | (skip
            refine e_if_eq 124 128 dX12_matches_121 (by decide) (by decide) rfl (fun _ => ?_) (fun h => absurd h (by decide))
            refine e_iconst 129 dX12_matches_128 rfl ?_
            refine e_iadd 130 dX12_matches_129 rfl ?_
            refine e_istore_n (i := 2) (lsn := [(2, _), (0, _), (1, _), (3, _)]) 131 dX12_matches_130 rfl (by decide) rfl rfl ?_
            refine e_iinc (lsn := [(3, _), (2, _), (0, _), (1, _)]) 134 dX12_matches_131 rfl (by decide) rfl rfl ?_
            refine e_goto 72 dX12_matches_134 (by decide) ?_
            refine e_ls (ls2 := [(0, _), (1, _), (2, _), (3, _)]) rfl ?_
            first
              | (exfalso; omega)
              | (rw [e32, hii] at hK118
                 have hv := v_no hmb hgr (by omega) hft hV (fun p a b => by have := hz2 p a (by omega); omega) hK118
                 refine ih (t + 1) (by omega) (by omega) _ hM118.1 (fun u z a => by rw [hE118, e42]; exact hP u z a) (by rw [hG118, e32]; exact v_skip hV hv) _ _ (by omega) ?_
                 rw [cP_no (P := fun u => gM (M 929) u ≠ -1) (fun q => q hv), hc]
                 omega))

theorem lm_m2 {X : jX} {M : jM} {Q : Int → jM → Prop} (hC : CR M) {f : Nat} (hf : f ≤ (M 929 3895).toNat) (h : ∀ Z : jM, Scr M Z → (∀ u : Int, 0 ≤ u → u < (f : Int) → Z 944 u = gM (M 929) u) → Q (cP (fun u => gM (M 929) u ≠ -1) (M 929 3895).toNat : Nat) Z) : ∀ n t : Nat, t + n = f → ∀ Y : jM, Scr M Y → (∀ u : Int, 0 ≤ u → u < (f : Int) → Y 944 u = gM (M 929) u) → VOk (rMbP (M 929)) (gM (M 929)) (Y 943) (M 929 709).toNat t t → ∀ c ii : Int, ii = t → c = (cP (fun u => gM (M 929) u ≠ -1) t : Nat) → jE X yX12_matches cX12_matches 5 (some .int) 66 Q Y 31 [(0, jR 928), (1, jI f), (2, jI c), (3, jI ii)] [] := by
  intro n
  induction n with
  | zero =>
    intro t hi Y hS hP hV c ii hii hc
    have hCY := hS.cr hC
    have e9 := hS.row
    have hn := hCY.cnt
    have hg := hCY.rng
    have e71 : Y 929 3895 = M 929 3895 := by rw [e9]
    have e72 : Y 929 709 = M 929 709 := by rw [e9]
    have hmb := mb_ok hC.1
    have hgr := gM_ok (a := M 929)
    have hf2 : (f : Int) ≤ M 929 3895 := by omega
    refine e_iload_n (i := 3) 32 dX12_matches_31 rfl rfl rfl ?_
    refine e_iload_n (i := 1) 33 dX12_matches_32 rfl rfl rfl ?_
    refine e_icmp_ge 36 70 dX12_matches_33 (by omega) (by omega) (by decide) rfl (fun b33 => ?_) (fun b33 => ?_)
    · skip
      refine e_iload_n (i := 1) 71 dX12_matches_70 rfl rfl rfl ?_
      refine e_istore_n (i := 3) (lsn := [(3, _), (0, _), (1, _), (2, _)]) 72 dX12_matches_71 rfl (by decide) rfl rfl ?_
      refine e_ls (ls2 := [(0, _), (1, _), (2, _), (3, _)]) rfl ?_
      have e : f = t := by omega
      subst e
      exact lm_m3 hC hf h (M 929 3895 - f).toNat f (by omega) (by omega) Y hS hP hV _ _ rfl hc
    · omega
  | succ n ih =>
    intro t hi Y hS hP hV c ii hii hc
    have hCY := hS.cr hC
    have e9 := hS.row
    have hn := hCY.cnt
    have hg := hCY.rng
    have e71 : Y 929 3895 = M 929 3895 := by rw [e9]
    have e72 : Y 929 709 = M 929 709 := by rw [e9]
    have hmb := mb_ok hC.1
    have hgr := gM_ok (a := M 929)
    have hf2 : (f : Int) ≤ M 929 3895 := by omega
    have hct0 := cP_top (fun u => gM (M 929) u ≠ -1) t
    have hpt := hP t (by omega) (by omega)
    have hgt := fun q => ((hgr t (by omega) (by omega)).1 q).1
    have hg1 : -1 ≤ gM (M 929) t ∧ gM (M 929) t ≤ 60 := by
      by_cases e : gM (M 929) t = -1
      · omega
      · have := hgt e
        omega
    have hg2 : gM (M 929) t ≠ -1 → 0 ≤ gM (M 929) t ∧ gM (M 929) t < 60 := fun e => by have := hgt e; omega
    have hpi : Y 944 ii = gM (M 929) t := by rw [hii]; exact hpt
    refine e_iload_n (i := 3) 32 dX12_matches_31 rfl rfl rfl ?_
    refine e_iload_n (i := 1) 33 dX12_matches_32 rfl rfl rfl ?_
    refine e_icmp_ge 36 70 dX12_matches_33 (by omega) (by omega) (by decide) rfl (fun b33 => ?_) (fun b33 => ?_)
    · omega
    · skip
      refine e_aload_n (i := 0) 37 dX12_matches_36 rfl rfl rfl ?_
      refine e_getr (j := 29) 40 fl_12_63 dX12_matches_37 at_928 rfl rfl tp_928_29 rfl ?_
      refine e_iload_n (i := 3) 41 dX12_matches_40 rfl rfl rfl ?_
      refine e_iald 42 dX12_matches_41 ar_944 (by omega) (by omega) rfl (fun r41 => ?_)
      refine e_iconst 43 dX12_matches_42 rfl ?_
      refine e_icmp_ne 46 49 dX12_matches_43 (by omega) (by decide) (by decide) rfl (fun b43 => ?_) (fun b43 => ?_)
      · skip
        have hg3 := hg2 (by omega)
        refine e_aload_n (i := 0) 50 dX12_matches_49 rfl rfl rfl ?_
        refine e_getr (j := 28) 53 fl_12_60 dX12_matches_50 at_928 rfl rfl tp_928_28 rfl ?_
        refine e_aload_n (i := 0) 54 dX12_matches_53 rfl rfl rfl ?_
        refine e_getr (j := 29) 57 fl_12_63 dX12_matches_54 at_928 rfl rfl tp_928_29 rfl ?_
        refine e_iload_n (i := 3) 58 dX12_matches_57 rfl rfl rfl ?_
        refine e_iald 59 dX12_matches_58 ar_944 (by omega) (by omega) rfl (fun r58 => ?_)
        refine e_iload_n (i := 3) 60 dX12_matches_59 rfl rfl rfl ?_
        refine e_iast 61 dX12_matches_60 ar_943 (by omega) (by omega) (by omega) rfl ?_
        refine e_iinc (lsn := [(2, _), (0, _), (1, _), (3, _)]) 64 dX12_matches_61 rfl (by decide) rfl rfl ?_
        refine e_iinc (lsn := [(3, _), (2, _), (0, _), (1, _)]) 67 dX12_matches_64 rfl (by decide) rfl rfl ?_
        refine e_goto 31 dX12_matches_67 (by decide) ?_
        refine e_ls (ls2 := [(0, _), (1, _), (2, _), (3, _)]) rfl ?_
        refine ih (t + 1) (by omega) _ (hS.set (by omega)) (fun u z a => by rw [jset_k (by omega)]; exact hP u z a) ?_ _ _ (by omega) ?_
        · rw [th_fun, hpi, hii]
          exact v_put hgr (by omega) hV (by omega)
        · rw [cP_yes (P := fun u => gM (M 929) u ≠ -1) (by omega), hc]
          omega
      · skip
        refine e_goto 64 dX12_matches_46 (by decide) ?_
        refine e_iinc (lsn := [(3, _), (0, _), (1, _), (2, _)]) 67 dX12_matches_64 rfl (by decide) rfl rfl ?_
        refine e_goto 31 dX12_matches_67 (by decide) ?_
        refine e_ls (ls2 := [(0, _), (1, _), (2, _), (3, _)]) rfl ?_
        refine ih (t + 1) (by omega) Y hS hP (v_skipf hV (by omega)) _ _ (by omega) ?_
        rw [cP_no (P := fun u => gM (M 929) u ≠ -1) (by omega)]
        exact hc

theorem lm_m1 {X : jX} {M : jM} {Q : Int → jM → Prop} (hC : CR M) {f : Nat} (hf : f ≤ (M 929 3895).toNat) (h : ∀ Z : jM, Scr M Z → (∀ u : Int, 0 ≤ u → u < (f : Int) → Z 944 u = gM (M 929) u) → Q (cP (fun u => gM (M 929) u ≠ -1) (M 929 3895).toNat : Nat) Z) : ∀ (n : Nat) (ii : Int), 0 ≤ ii → ii + n = M 929 709 → ∀ Y : jM, Scr M Y → (∀ u : Int, 0 ≤ u → u < (f : Int) → Y 944 u = gM (M 929) u) → (∀ p, 0 ≤ p → p < ii → Y 943 p = -1) → jE X yX12_matches cX12_matches 5 (some .int) 66 Q Y 4 [(0, jR 928), (1, jI f), (2, jI 0), (3, jI ii)] [] := by
  intro n
  induction n with
  | zero =>
    intro ii a0 hi Y hS hP hz
    have hCY := hS.cr hC
    have e9 := hS.row
    have hn := hCY.cnt
    have hg := hCY.rng
    have e71 : Y 929 3895 = M 929 3895 := by rw [e9]
    have e72 : Y 929 709 = M 929 709 := by rw [e9]
    have hmb := mb_ok hC.1
    have hgr := gM_ok (a := M 929)
    have hf2 : (f : Int) ≤ M 929 3895 := by omega
    refine e_iload_n (i := 3) 5 dX12_matches_4 rfl rfl rfl ?_
    refine e_aload_n (i := 0) 6 dX12_matches_5 rfl rfl rfl ?_
    refine e_getr (j := 1) 9 fl_12_13 dX12_matches_6 at_928 rfl rfl tp_928_1 rfl ?_
    refine e_sipush 12 dX12_matches_9 (by decide) rfl ?_
    refine e_iald 13 dX12_matches_12 ar_929 (by decide) (by decide) rfl (fun r12 => ?_)
    refine e_icmp_ge 16 29 dX12_matches_13 (by omega) (by omega) (by decide) rfl (fun b13 => ?_) (fun b13 => ?_)
    · skip
      refine e_iconst 30 dX12_matches_29 rfl ?_
      refine e_istore_n (i := 3) (lsn := [(3, _), (0, _), (1, _), (2, _)]) 31 dX12_matches_30 rfl (by decide) rfl rfl ?_
      refine e_ls (ls2 := [(0, _), (1, _), (2, _), (3, _)]) rfl ?_
      refine lm_m2 hC hf h f 0 (by omega) Y hS hP ⟨fun p a b c => ?_, fun p q a b c d e g => hz p a (by omega), fun u a b => by omega, fun u a b => by omega⟩ _ _ rfl rfl
      exact absurd (hz p a (by omega)) c
    · omega
  | succ n ih =>
    intro ii a0 hi Y hS hP hz
    have hCY := hS.cr hC
    have e9 := hS.row
    have hn := hCY.cnt
    have hg := hCY.rng
    have e71 : Y 929 3895 = M 929 3895 := by rw [e9]
    have e72 : Y 929 709 = M 929 709 := by rw [e9]
    have hmb := mb_ok hC.1
    have hgr := gM_ok (a := M 929)
    have hf2 : (f : Int) ≤ M 929 3895 := by omega
    refine e_iload_n (i := 3) 5 dX12_matches_4 rfl rfl rfl ?_
    refine e_aload_n (i := 0) 6 dX12_matches_5 rfl rfl rfl ?_
    refine e_getr (j := 1) 9 fl_12_13 dX12_matches_6 at_928 rfl rfl tp_928_1 rfl ?_
    refine e_sipush 12 dX12_matches_9 (by decide) rfl ?_
    refine e_iald 13 dX12_matches_12 ar_929 (by decide) (by decide) rfl (fun r12 => ?_)
    refine e_icmp_ge 16 29 dX12_matches_13 (by omega) (by omega) (by decide) rfl (fun b13 => ?_) (fun b13 => ?_)
    · omega
    · skip
      refine e_aload_n (i := 0) 17 dX12_matches_16 rfl rfl rfl ?_
      refine e_getr (j := 28) 20 fl_12_60 dX12_matches_17 at_928 rfl rfl tp_928_28 rfl ?_
      refine e_iload_n (i := 3) 21 dX12_matches_20 rfl rfl rfl ?_
      refine e_iconst 22 dX12_matches_21 rfl ?_
      refine e_iast 23 dX12_matches_22 ar_943 (by omega) (by omega) (by decide) rfl ?_
      refine e_iinc (lsn := [(3, _), (0, _), (1, _), (2, _)]) 26 dX12_matches_23 rfl (by decide) rfl rfl ?_
      refine e_goto 4 dX12_matches_26 (by decide) ?_
      refine e_ls (ls2 := [(0, _), (1, _), (2, _), (3, _)]) rfl ?_
      refine ih (ii + 1) (by omega) (by omega) _ (hS.set (by omega)) (fun u z a => by rw [jset_k (by omega)]; exact hP u z a) (fun p a b => ?_)
      by_cases e : p = ii
      · rw [e, jset_same]
      · rw [jset_j e]
        exact hz p a (by omega)

theorem m_matches {M : jM} {Q : Int → jM → Prop} (hC : CR M) {f : Nat} (hf : f ≤ (M 929 3895).toNat) {Y : jM} {ff : Int} (hff : ff = (f : Int)) (hS : Scr M Y) (hP : ∀ u : Int, 0 ≤ u → u < (f : Int) → Y 944 u = gM (M 929) u) (h : ∀ Z : jM, Scr M Z → (∀ u : Int, 0 ≤ u → u < (f : Int) → Z 944 u = gM (M 929) u) → Q (cP (fun u => gM (M 929) u ≠ -1) (M 929 3895).toNat : Nat) Z) : jCt yX12_matches cX12_matches 5 (some .int) 66 [jR 928, jI ff] Y Q := by
  refine jCt_of mt_yX12_matches (Nat.le_of_ble_eq_true rfl) (fun X => ?_)
  subst hff
  have hg := hC.rng
  refine e_iconst 1 dX12_matches_0 rfl ?_
  refine e_istore_n (i := 2) (lsn := [(2, _), (0, _), (1, _)]) 2 dX12_matches_1 rfl (by decide) rfl rfl ?_
  refine e_iconst 3 dX12_matches_2 rfl ?_
  refine e_istore_n (i := 3) (lsn := [(3, _), (2, _), (0, _), (1, _)]) 4 dX12_matches_3 rfl (by decide) rfl rfl ?_
  refine e_ls (ls2 := [(0, _), (1, _), (2, _), (3, _)]) rfl ?_
  exact lm_m1 hC hf h (M 929 709).toNat 0 (by omega) (by omega) Y hS hP (fun p a b => by omega)

theorem lm_taken {X : jX} {M Y : jM} {Q : Int → jM → Prop} (hC : CR M) (hS : Scr M Y) {t p : Int} (ht : 0 ≤ t ∧ t ≤ 12) (hp : -2147483648 ≤ p ∧ p ≤ 2147483647) (hP : ∀ u, 0 ≤ u → u < t → Y 944 u = gM (M 929) u) (h1 : (∃ s, 0 ≤ s ∧ s < t ∧ gM (M 929) s = p) → Q 1 Y) (h0 : (¬ ∃ s, 0 ≤ s ∧ s < t ∧ gM (M 929) s = p) → Q 0 Y) : ∀ (n : Nat) (ii b : Int), 0 ≤ ii → ii + n = t → (b = 1 ∧ ∃ s, 0 ≤ s ∧ s < ii ∧ gM (M 929) s = p) ∨ (b = 0 ∧ ∀ s, 0 ≤ s → s < ii → gM (M 929) s ≠ p) → jE X yX12_isTaken cX12_isTaken 5 (some .boolean) 1 Q Y 5 [(0, jR 928), (1, jI p), (2, jI t), (3, jI b), (4, jI ii)] [] := by
  intro n
  induction n with
  | zero =>
    intro ii b a0 hi hb
    have hb2 : b = 0 ∨ b = 1 := by rcases hb with q | q <;> omega
    refine e_iload 7 dX12_isTaken_5 rfl rfl ?_
    refine e_iload_n (i := 2) 8 dX12_isTaken_7 rfl rfl rfl ?_
    refine e_icmp_ge 11 38 dX12_isTaken_8 (by omega) (by omega) (by decide) rfl (fun b8 => ?_) (fun b8 => ?_)
    · skip
      refine e_iload_n (i := 3) 39 dX12_isTaken_38 rfl rfl rfl ?_
      refine e_zret dX12_isTaken_39 (by omega) ?_
      rcases hb with ⟨q, s, x, y, z⟩ | ⟨q, hq⟩
      · rw [q]
        exact h1 ⟨s, x, by omega, z⟩
      · rw [q]
        exact h0 (fun ⟨s, x, y, z⟩ => hq s x (by omega) z)
    · omega
  | succ n ih =>
    intro ii b a0 hi hb
    have hb2 : b = 0 ∨ b = 1 := by rcases hb with q | q <;> omega
    have hpi := hP ii a0 (by omega)
    refine e_iload 7 dX12_isTaken_5 rfl rfl ?_
    refine e_iload_n (i := 2) 8 dX12_isTaken_7 rfl rfl rfl ?_
    refine e_icmp_ge 11 38 dX12_isTaken_8 (by omega) (by omega) (by decide) rfl (fun b8 => ?_) (fun b8 => ?_)
    · omega
    · skip
      refine e_iload_n (i := 3) 12 dX12_isTaken_11 rfl rfl rfl ?_
      refine e_if_ne 15 26 dX12_isTaken_12 (by omega) (by decide) rfl (fun b12 => ?_) (fun b12 => ?_)
      · skip
        refine e_iconst 27 dX12_isTaken_26 rfl ?_
        refine e_goto 31 dX12_isTaken_27 (by decide) ?_
        refine e_istore_n (i := 3) (lsn := [(3, _), (0, _), (1, _), (2, _), (4, _)]) 32 dX12_isTaken_31 rfl (by decide) rfl rfl ?_
        refine e_iinc (lsn := [(4, _), (3, _), (0, _), (1, _), (2, _)]) 35 dX12_isTaken_32 rfl (by decide) rfl rfl ?_
        refine e_goto 5 dX12_isTaken_35 (by decide) ?_
        refine e_ls (ls2 := [(0, _), (1, _), (2, _), (3, _), (4, _)]) rfl ?_
        first
          | (exfalso; omega)
          | (refine ih (ii + 1) _ (by omega) (by omega) (Or.inl ⟨rfl, ?_⟩)
             rcases hb with ⟨q, s, x, y, z⟩ | ⟨q, hq⟩
             · exact ⟨s, x, by omega, z⟩
             · exact ⟨ii, a0, by omega, by omega⟩)
          | (refine ih (ii + 1) _ (by omega) (by omega) (Or.inr ⟨rfl, fun s x y z => ?_⟩)
             rcases hb with ⟨q, s, x, y, z⟩ | ⟨q, hq⟩
             · omega
             · by_cases e : s = ii
               · subst e
                 omega
               · exact hq s x (by omega) z)
      · skip
        refine e_aload_n (i := 0) 16 dX12_isTaken_15 rfl rfl rfl ?_
        refine e_getr (j := 29) 19 fl_12_63 dX12_isTaken_16 at_928 rfl rfl tp_928_29 rfl ?_
        refine e_iload 21 dX12_isTaken_19 rfl rfl ?_
        refine e_iald 22 dX12_isTaken_21 ar_944 (by omega) (by omega) rfl (fun r21 => ?_)
        refine e_iload_n (i := 1) 23 dX12_isTaken_22 rfl rfl rfl ?_
        refine e_icmp_ne 26 30 dX12_isTaken_23 (by omega) (by omega) (by decide) rfl (fun b23 => ?_) (fun b23 => ?_)
        · skip
          refine e_iconst 31 dX12_isTaken_30 rfl ?_
          refine e_istore_n (i := 3) (lsn := [(3, _), (0, _), (1, _), (2, _), (4, _)]) 32 dX12_isTaken_31 rfl (by decide) rfl rfl ?_
          refine e_iinc (lsn := [(4, _), (3, _), (0, _), (1, _), (2, _)]) 35 dX12_isTaken_32 rfl (by decide) rfl rfl ?_
          refine e_goto 5 dX12_isTaken_35 (by decide) ?_
          refine e_ls (ls2 := [(0, _), (1, _), (2, _), (3, _), (4, _)]) rfl ?_
          first
            | (exfalso; omega)
            | (refine ih (ii + 1) _ (by omega) (by omega) (Or.inl ⟨rfl, ?_⟩)
               rcases hb with ⟨q, s, x, y, z⟩ | ⟨q, hq⟩
               · exact ⟨s, x, by omega, z⟩
               · exact ⟨ii, a0, by omega, by omega⟩)
            | (refine ih (ii + 1) _ (by omega) (by omega) (Or.inr ⟨rfl, fun s x y z => ?_⟩)
               rcases hb with ⟨q, s, x, y, z⟩ | ⟨q, hq⟩
               · omega
               · by_cases e : s = ii
                 · subst e
                   omega
                 · exact hq s x (by omega) z)
        · skip
          refine e_iconst 27 dX12_isTaken_26 rfl ?_
          refine e_goto 31 dX12_isTaken_27 (by decide) ?_
          refine e_istore_n (i := 3) (lsn := [(3, _), (0, _), (1, _), (2, _), (4, _)]) 32 dX12_isTaken_31 rfl (by decide) rfl rfl ?_
          refine e_iinc (lsn := [(4, _), (3, _), (0, _), (1, _), (2, _)]) 35 dX12_isTaken_32 rfl (by decide) rfl rfl ?_
          refine e_goto 5 dX12_isTaken_35 (by decide) ?_
          refine e_ls (ls2 := [(0, _), (1, _), (2, _), (3, _), (4, _)]) rfl ?_
          first
            | (exfalso; omega)
            | (refine ih (ii + 1) _ (by omega) (by omega) (Or.inl ⟨rfl, ?_⟩)
               rcases hb with ⟨q, s, x, y, z⟩ | ⟨q, hq⟩
               · exact ⟨s, x, by omega, z⟩
               · exact ⟨ii, a0, by omega, by omega⟩)
            | (refine ih (ii + 1) _ (by omega) (by omega) (Or.inr ⟨rfl, fun s x y z => ?_⟩)
               rcases hb with ⟨q, s, x, y, z⟩ | ⟨q, hq⟩
               · omega
               · by_cases e : s = ii
                 · subst e
                   omega
                 · exact hq s x (by omega) z)

theorem m_isTaken {M Y : jM} {Q : Int → jM → Prop} (hC : CR M) (hS : Scr M Y) {t p : Int} (ht : 0 ≤ t ∧ t ≤ 12) (hp : -2147483648 ≤ p ∧ p ≤ 2147483647) (hP : ∀ u, 0 ≤ u → u < t → Y 944 u = gM (M 929) u) (h1 : (∃ s, 0 ≤ s ∧ s < t ∧ gM (M 929) s = p) → Q 1 Y) (h0 : (¬ ∃ s, 0 ≤ s ∧ s < t ∧ gM (M 929) s = p) → Q 0 Y) : jCt yX12_isTaken cX12_isTaken 5 (some .boolean) 1 [jR 928, jI p, jI t] Y Q := by
  refine jCt_of mt_yX12_isTaken (Nat.le_of_ble_eq_true rfl) (fun X => ?_)
  refine e_iconst 1 dX12_isTaken_0 rfl ?_
  refine e_istore_n (i := 3) (lsn := [(3, _), (0, _), (1, _), (2, _)]) 2 dX12_isTaken_1 rfl (by decide) rfl rfl ?_
  refine e_iconst 3 dX12_isTaken_2 rfl ?_
  refine e_istore (lsn := [(4, _), (3, _), (0, _), (1, _), (2, _)]) 5 dX12_isTaken_3 (by decide) rfl rfl ?_
  refine e_ls (ls2 := [(0, _), (1, _), (2, _), (3, _), (4, _)]) rfl ?_
  exact lm_taken hC hS ht hp hP h1 h0 t.toNat 0 0 (by omega) (by omega) (Or.inr ⟨rfl, fun s x y => by omega⟩)

