/-! LOOKS *** the tests *** PAIRS: fits, hold -/
theorem vL_not {b : Bool} {t : List Bool} : 2 * (vL (b :: t) / 2) + (1 - vL (b :: t) % 2) = vL ((!b) :: t) := by
  simp only [vL]
  cases b <;> simp only [Bool.toNat_false, Bool.toNat_true, Bool.not_false, Bool.not_true] <;> omega
theorem vL_and {x y : Bool} {t : List Bool} : 2 * (vL (x :: y :: t) / 2 / 2) + (vL (x :: y :: t) / 2 % 2) * (vL (x :: y :: t) % 2) = vL ((y && x) :: t) := by
  have h1 : vL (x :: y :: t) / 2 = vL (y :: t) := by
    have := Bool.toNat_le x
    rw [vL]
    omega
  have h2 : vL (x :: y :: t) % 2 = x.toNat := by
    have := Bool.toNat_le x
    rw [vL]
    omega
  have h3 : vL (y :: t) / 2 = vL t := by
    have := Bool.toNat_le y
    rw [vL]
    omega
  have h4 : vL (y :: t) % 2 = y.toNat := by
    have := Bool.toNat_le y
    rw [vL]
    omega
  rw [h1, h2, h3, h4, vL]
  cases x <;> cases y <;> rfl
theorem vL_or {x y : Bool} {t : List Bool} : 2 * (vL (x :: y :: t) / 2 / 2) + max (vL (x :: y :: t) / 2 % 2) (vL (x :: y :: t) % 2) = vL ((y || x) :: t) := by
  have h1 : vL (x :: y :: t) / 2 = vL (y :: t) := by
    have := Bool.toNat_le x
    rw [vL]
    omega
  have h2 : vL (x :: y :: t) % 2 = x.toNat := by
    have := Bool.toNat_le x
    rw [vL]
    omega
  have h3 : vL (y :: t) / 2 = vL t := by
    have := Bool.toNat_le y
    rw [vL]
    omega
  have h4 : vL (y :: t) % 2 = y.toNat := by
    have := Bool.toNat_le y
    rw [vL]
    omega
  rw [h1, h2, h3, h4, vL]
  cases x <;> cases y <;> rfl
theorem L_p1 {p : Nat} (h : p < 2 ^ 61) : jorL (jshlL p 1) 1 = ((2 * p + 1 : Nat) : Int) := L_push (c := 1) h (by omega)
theorem L_p0 {p : Nat} (h : p < 2 ^ 61) : jorL (jshlL p 1) 0 = ((2 * p + 0 : Nat) : Int) := L_push (c := 0) h (by omega)
theorem op_of {a : Int → Int} {f : Nat} {i d : Int} (h : LWf a (f + 1) i d) : (a (82 + 2 * i) = 13 ∧ opC (a (82 + 2 * i)) = 6 ∧ 1 ≤ d ∧ LWf a f (i + 1) d) ∨ (a (82 + 2 * i) = 12 ∧ opC (a (82 + 2 * i)) = 7 ∧ 2 ≤ d ∧ LWf a f (i + 1) (d - 1)) ∨ (a (82 + 2 * i) = 11 ∧ opC (a (82 + 2 * i)) = 8 ∧ 2 ≤ d ∧ LWf a f (i + 1) (d - 1)) ∨ ((14 ≤ a (82 + 2 * i) ∧ a (82 + 2 * i) ≤ 19) ∧ opC (a (82 + 2 * i)) = a (82 + 2 * i) - 14 ∧ d ≤ 60 ∧ LWf a f (i + 1) (d + 1)) := by
  rw [LWf] at h
  unfold opC
  by_cases e1 : a (82 + 2 * i) = 13
  · rw [if_pos e1] at h
    exact Or.inl ⟨e1, if_pos e1, h⟩
  · rw [if_neg e1] at h
    by_cases e2 : a (82 + 2 * i) = 12
    · rw [if_pos (Or.inl e2)] at h
      exact Or.inr (Or.inl ⟨e2, by rw [if_neg e1, if_pos e2], h⟩)
    · by_cases e3 : a (82 + 2 * i) = 11
      · rw [if_pos (Or.inr e3)] at h
        exact Or.inr (Or.inr (Or.inl ⟨e3, by rw [if_neg e1, if_neg e2, if_pos e3], h⟩))
      · rw [if_neg (fun q => q.elim e2 e3)] at h
        exact Or.inr (Or.inr (Or.inr ⟨h.1, by rw [if_neg e1, if_neg e2, if_neg e3], h.2⟩))
theorem opc_6 {a : Int → Int} {f : Nat} {i d : Int} (h : LWf a (f + 1) i d) (e : opC (a (82 + 2 * i)) = 6) : a (82 + 2 * i) = 13 ∧ 1 ≤ d ∧ LWf a f (i + 1) d := by
  rcases op_of h with z | z | z | z <;> first | exact ⟨z.1, z.2.2⟩ | (exfalso; omega)
theorem opc_7 {a : Int → Int} {f : Nat} {i d : Int} (h : LWf a (f + 1) i d) (e : opC (a (82 + 2 * i)) = 7) : a (82 + 2 * i) = 12 ∧ 2 ≤ d ∧ LWf a f (i + 1) (d - 1) := by
  rcases op_of h with z | z | z | z
  · exfalso; omega
  · exact ⟨z.1, z.2.2⟩
  · exfalso; omega
  · exfalso; omega
theorem opc_8 {a : Int → Int} {f : Nat} {i d : Int} (h : LWf a (f + 1) i d) (e : opC (a (82 + 2 * i)) = 8) : a (82 + 2 * i) = 11 ∧ 2 ≤ d ∧ LWf a f (i + 1) (d - 1) := by
  rcases op_of h with z | z | z | z
  · exfalso; omega
  · exfalso; omega
  · exact ⟨z.1, z.2.2⟩
  · exfalso; omega
theorem opc_r {a : Int → Int} {f : Nat} {i d : Int} (h : LWf a (f + 1) i d) (e6 : opC (a (82 + 2 * i)) ≠ 6) (e7 : opC (a (82 + 2 * i)) ≠ 7) (e8 : opC (a (82 + 2 * i)) ≠ 8) : (14 ≤ a (82 + 2 * i) ∧ a (82 + 2 * i) ≤ 19) ∧ d ≤ 60 ∧ LWf a f (i + 1) (d + 1) := by
  rcases op_of h with z | z | z | z
  · exfalso; omega
  · exfalso; omega
  · exfalso; omega
  · exact ⟨z.1, z.2.2⟩
theorem opr_13 {a : Int → Int} {f : Nat} {i d : Int} (h : LWf a (f + 1) i d) (e : a (82 + 2 * i) = 13) : 1 ≤ d ∧ LWf a f (i + 1) d := by
  rcases op_of h with z | z | z | z <;> first | exact z.2.2 | (exfalso; omega)
theorem opr_2 {a : Int → Int} {f : Nat} {i d : Int} (h : LWf a (f + 1) i d) (e : a (82 + 2 * i) = 12 ∨ a (82 + 2 * i) = 11) : 2 ≤ d ∧ LWf a f (i + 1) (d - 1) := by
  rcases op_of h with z | z | z | z
  · exfalso; omega
  · exact z.2.2
  · exact z.2.2
  · exfalso; omega
theorem opr_r {a : Int → Int} {f : Nat} {i d : Int} (h : LWf a (f + 1) i d) (e1 : a (82 + 2 * i) ≠ 13) (e2 : a (82 + 2 * i) ≠ 12) (e3 : a (82 + 2 * i) ≠ 11) : (14 ≤ a (82 + 2 * i) ∧ a (82 + 2 * i) ≤ 19) ∧ d ≤ 60 ∧ LWf a f (i + 1) (d + 1) := by
  rcases op_of h with z | z | z | z
  · exfalso; omega
  · exfalso; omega
  · exfalso; omega
  · exact ⟨z.1, z.2.2⟩
theorem LWf_down {a : Int → Int} {f : Nat} {i : Int} {t : List Bool} {x y z : Bool} (h : LWf a f i (((x :: y :: t).length : Int) - 1)) : LWf a f i ((z :: t).length : Nat) := by
  simp only [List.length_cons] at h ⊢
  rw [show ((t.length + 1 + 1 : Nat) : Int) - 1 = ((t.length + 1 : Nat) : Int) by omega] at h
  exact h
theorem LWf_up {a : Int → Int} {f : Nat} {i : Int} {t : List Bool} {z : Bool} (h : LWf a f i ((t.length : Int) + 1)) : LWf a f i ((z :: t).length : Nat) := by
  simp only [List.length_cons]
  rw [show ((t.length + 1 : Nat) : Int) = (t.length : Int) + 1 by omega]
  exact h
theorem two_of {l : List Bool} (h : (2 : Int) ≤ (l.length : Int)) : ∃ x y t, l = x :: y :: t := by
  rcases l with _ | ⟨x, _ | ⟨y, t⟩⟩
  · simp only [List.length_nil] at h
    omega
  · simp only [List.length_cons, List.length_nil] at h
    omega
  · exact ⟨x, y, t, rfl⟩
theorem one_of {l : List Bool} (h : (1 : Int) ≤ (l.length : Int)) : ∃ x t, l = x :: t := by
  rcases l with _ | ⟨x, t⟩
  · simp only [List.length_nil] at h
    omega
  · exact ⟨x, t, rfl⟩
theorem l_lkholds {X : jX} {look p k : Int} {M N : jM} {Q : Int → jM → Prop} (hC : CR M) (hN : NH M N) (hlk : 0 ≤ look ∧ look < M 929 65) (hp0 : 0 ≤ p) (hp1 : p < M 929 709) (hk : k = M 929 (710 + p)) : ∀ (f : Nat) (ii : Int) (l : List Bool), M 929 (66 + look) ≤ ii → ii + f = M 929 (74 + look) → l.length ≤ 61 → LWf (M 929) f ii l.length → Q (if (runL (M 929) p f ii l).headD false = true then 1 else 0) N → jE X yX2_holds cX2_holds 7 (some .boolean) 2 Q N 11 [(0, jR 12), (1, jI look), (2, jR (84 + p)), (3, jR (56 + k)), (4, jL (vL l : Nat)), (6, jI ii)] [] := by
  have hl8 : look < 8 := by
    have := hC.lkr.1
    omega
  have hlr := (hC.lkr.2 look hlk.1 hlk.2).1
  have hlc := hC.lkc
  have hlc2 := hlc.2.1 look hlk.1 hlk.2
  have hp60 : p < 60 ∧ 0 ≤ k ∧ k < 12 := by
    have hg := hC.rng
    have hpr := (hC.plr hp0 hp1).1
    omega
  have nb1 : N 13 look = M 929 (66 + look) := by rw [hN _ _ (by omega), hlc2.1]
  have nb2 : N 13 (look + 1) = M 929 (74 + look) := by rw [hN _ _ (by omega), hlc2.2.1]
  intro f
  induction f with
  | zero =>
    intro ii l h0 hi hlen hW h
    have hv61 := vL_62 hlen
    have h1l : l.length = 1 := by
      unfold LWf at hW
      omega
    obtain ⟨b, rfl⟩ : ∃ b, l = [b] := List.length_eq_one_iff.mp h1l
    have hb : vL [b] = b.toNat := by
      simp only [vL]
      omega
    rw [runL] at h
    rw [hb] at hv61 ⊢
    refine e_iload 13 dX2_holds_11 rfl rfl ?_
    refine e_aload_n (i := 0) 14 dX2_holds_13 rfl rfl rfl ?_
    refine e_getr (j := 2) 17 fl_2_9 dX2_holds_14 at_12 rfl rfl tp_12_2 rfl ?_
    refine e_iload_n (i := 1) 18 dX2_holds_17 rfl rfl rfl ?_
    refine e_iconst 19 dX2_holds_18 rfl ?_
    refine e_iadd 20 dX2_holds_19 rfl ?_
    refine e_iald 21 dX2_holds_20 ar_13 (by omega) (by omega) rfl (fun r20 => ?_)
    refine e_icmp_ge 24 129 dX2_holds_21 (by omega) (by omega) (by decide) rfl (fun b21 => ?_) (fun b21 => ?_)
    · skip
      refine e_lload 131 dX2_holds_129 rfl rfl ?_
      refine e_lconst1 132 dX2_holds_131 rfl ?_
      refine e_land 133 dX2_holds_132 rfl ?_
      rw [L_and1 (by omega)]
      refine e_lconst1 134 dX2_holds_133 rfl ?_
      refine e_lcmp 135 dX2_holds_134 (by omega) (by decide) rfl (fun b134 => ?_) (fun b134 => ?_) (fun b134 => ?_)
      · skip
        refine e_if_ne 138 142 dX2_holds_135 (by decide) (by decide) rfl (fun _ => ?_) (fun h => absurd h (by decide))
        refine e_iconst 143 dX2_holds_142 rfl ?_
        refine e_zret dX2_holds_143 (by decide) ?_
        cases b
        · first | exact h | (exfalso; simp only [Bool.toNat_false] at *; omega)
        · first | exact h | (exfalso; simp only [Bool.toNat_true] at *; omega)
      · skip
        refine e_if_ne 138 142 dX2_holds_135 (by decide) (by decide) rfl (fun h => absurd h (by decide)) (fun _ => ?_)
        refine e_iconst 139 dX2_holds_138 rfl ?_
        refine e_goto 143 dX2_holds_139 (by decide) ?_
        refine e_zret dX2_holds_143 (by decide) ?_
        cases b
        · first | exact h | (exfalso; simp only [Bool.toNat_false] at *; omega)
        · first | exact h | (exfalso; simp only [Bool.toNat_true] at *; omega)
      · skip
        refine e_if_ne 138 142 dX2_holds_135 (by decide) (by decide) rfl (fun _ => ?_) (fun h => absurd h (by decide))
        refine e_iconst 143 dX2_holds_142 rfl ?_
        refine e_zret dX2_holds_143 (by decide) ?_
        cases b
        · first | exact h | (exfalso; simp only [Bool.toNat_false] at *; omega)
        · first | exact h | (exfalso; simp only [Bool.toNat_true] at *; omega)
    · omega
  | succ f ih =>
    intro ii l h0 hi hlen hW h
    have hv61 := vL_62 hlen
    have hs : N 14 ii = opC (M 929 (82 + 2 * ii)) := by rw [hN _ _ (by omega), (hlc.2.2 ii (by omega) (by omega)).1]
    refine e_iload 13 dX2_holds_11 rfl rfl ?_
    refine e_aload_n (i := 0) 14 dX2_holds_13 rfl rfl rfl ?_
    refine e_getr (j := 2) 17 fl_2_9 dX2_holds_14 at_12 rfl rfl tp_12_2 rfl ?_
    refine e_iload_n (i := 1) 18 dX2_holds_17 rfl rfl rfl ?_
    refine e_iconst 19 dX2_holds_18 rfl ?_
    refine e_iadd 20 dX2_holds_19 rfl ?_
    refine e_iald 21 dX2_holds_20 ar_13 (by omega) (by omega) rfl (fun r20 => ?_)
    refine e_icmp_ge 24 129 dX2_holds_21 (by omega) (by omega) (by decide) rfl (fun b21 => ?_) (fun b21 => ?_)
    · omega
    · skip
      refine e_aload_n (i := 0) 25 dX2_holds_24 rfl rfl rfl ?_
      refine e_getr (j := 3) 28 fl_2_15 dX2_holds_25 at_12 rfl rfl tp_12_3 rfl ?_
      refine e_iload 30 dX2_holds_28 rfl rfl ?_
      refine e_iald 31 dX2_holds_30 ar_14 (by omega) (by omega) rfl (fun r30 => ?_)
      rw [hs] at r30 ⊢
      refine e_bipush 33 dX2_holds_31 (by decide) rfl ?_
      refine e_icmp_ne 36 45 dX2_holds_33 (by omega) (by decide) (by decide) rfl (fun b33 => ?_) (fun b33 => ?_)
      · skip
        refine e_aload_n (i := 0) 46 dX2_holds_45 rfl rfl rfl ?_
        refine e_getr (j := 3) 49 fl_2_15 dX2_holds_46 at_12 rfl rfl tp_12_3 rfl ?_
        refine e_iload 51 dX2_holds_49 rfl rfl ?_
        refine e_iald 52 dX2_holds_51 ar_14 (by omega) (by omega) rfl (fun r51 => ?_)
        rw [hs] at r51 ⊢
        refine e_bipush 54 dX2_holds_52 (by decide) rfl ?_
        refine e_icmp_ne 57 73 dX2_holds_54 (by omega) (by decide) (by decide) rfl (fun b54 => ?_) (fun b54 => ?_)
        · skip
          refine e_aload_n (i := 0) 74 dX2_holds_73 rfl rfl rfl ?_
          refine e_getr (j := 3) 77 fl_2_15 dX2_holds_74 at_12 rfl rfl tp_12_3 rfl ?_
          refine e_iload 79 dX2_holds_77 rfl rfl ?_
          refine e_iald 80 dX2_holds_79 ar_14 (by omega) (by omega) rfl (fun r79 => ?_)
          rw [hs] at r79 ⊢
          refine e_bipush 82 dX2_holds_80 (by decide) rfl ?_
          refine e_icmp_ne 85 99 dX2_holds_82 (by omega) (by decide) (by decide) rfl (fun b82 => ?_) (fun b82 => ?_)
          · skip
            have hq := opc_r hW b33 b54 b82
            refine e_lload 101 dX2_holds_99 rfl rfl ?_
            refine e_iconst 102 dX2_holds_101 rfl ?_
            refine e_lshl 103 dX2_holds_102 rfl ?_
            refine e_aload_n (i := 0) 104 dX2_holds_103 rfl rfl rfl ?_
            refine e_iload 106 dX2_holds_104 rfl rfl ?_
            refine e_aload_n (i := 2) 107 dX2_holds_106 rfl rfl rfl ?_
            refine e_aload_n (i := 3) 108 dX2_holds_107 rfl rfl rfl ?_
            refine e_callV 111 mt_yX2_isFact mv_yX2_isFact wd_1066 (by decide) dX2_holds_108 at_12 jc_2 rfl rfl rfl (Nat.le_of_ble_eq_true rfl) (jroom (by decide)) rfl (c_isFact hC hN ⟨by omega, by omega⟩ hp0 hp1 hk (by omega) (fun w108 => ?_) (fun w108 => ?_))
            · dsimp only [jpush]
              refine e_if_eq 114 118 dX2_holds_111 (by decide) (by decide) rfl (fun h => absurd h (by decide)) (fun _ => ?_)
              refine e_iconst 115 dX2_holds_114 rfl ?_
              refine e_goto 119 dX2_holds_115 (by decide) ?_
              refine e_i2l 120 dX2_holds_119 (by decide) rfl ?_
              refine e_lor 121 dX2_holds_120 rfl ?_
              refine e_lstore (lsn := [(4, _), (0, _), (1, _), (2, _), (3, _), (6, _)]) 123 dX2_holds_121 (by decide) rfl rfl ?_
              refine e_iinc (lsn := [(6, _), (4, _), (0, _), (1, _), (2, _), (3, _)]) 126 dX2_holds_123 rfl (by decide) rfl rfl ?_
              refine e_goto 11 dX2_holds_126 (by decide) ?_
              refine e_ls (ls2 := [(0, _), (1, _), (2, _), (3, _), (4, _), (6, _)]) rfl ?_
              have es : stepL (M 929) p ii l = decide (rFactP (M 929) (M 929 (82 + 2 * ii)) (M 929 (83 + 2 * ii)) p) :: l := by
                unfold stepL
                rw [if_neg (by omega), if_neg (by omega), if_neg (by omega)]
              rw [runL, es] at h
              rw [L_p1 hv61]
              rw [decide_eq_true w108] at h
              have e9 : 2 * vL l + 1 = vL (true :: l) := rfl
              rw [e9]
              exact ih _ (true :: l) (by omega) (by omega) (by simp only [List.length_cons]; omega) (LWf_up hq.2.2) h
            · dsimp only [jpush]
              refine e_if_eq 114 118 dX2_holds_111 (by decide) (by decide) rfl (fun _ => ?_) (fun h => absurd h (by decide))
              refine e_iconst 119 dX2_holds_118 rfl ?_
              refine e_i2l 120 dX2_holds_119 (by decide) rfl ?_
              refine e_lor 121 dX2_holds_120 rfl ?_
              refine e_lstore (lsn := [(4, _), (0, _), (1, _), (2, _), (3, _), (6, _)]) 123 dX2_holds_121 (by decide) rfl rfl ?_
              refine e_iinc (lsn := [(6, _), (4, _), (0, _), (1, _), (2, _), (3, _)]) 126 dX2_holds_123 rfl (by decide) rfl rfl ?_
              refine e_goto 11 dX2_holds_126 (by decide) ?_
              refine e_ls (ls2 := [(0, _), (1, _), (2, _), (3, _), (4, _), (6, _)]) rfl ?_
              have es : stepL (M 929) p ii l = decide (rFactP (M 929) (M 929 (82 + 2 * ii)) (M 929 (83 + 2 * ii)) p) :: l := by
                unfold stepL
                rw [if_neg (by omega), if_neg (by omega), if_neg (by omega)]
              rw [runL, es] at h
              rw [L_p0 hv61]
              rw [decide_eq_false w108] at h
              have e9 : 2 * vL l + 0 = vL (false :: l) := rfl
              rw [e9]
              exact ih _ (false :: l) (by omega) (by omega) (by simp only [List.length_cons]; omega) (LWf_up hq.2.2) h
          · skip
            have hq := opc_8 hW b82
            refine e_lload 87 dX2_holds_85 rfl rfl ?_
            refine e_iconst 88 dX2_holds_87 rfl ?_
            refine e_lshr 89 dX2_holds_88 rfl ?_
            rw [L_shr (by omega)]
            refine e_lload 91 dX2_holds_89 rfl rfl ?_
            refine e_lconst1 92 dX2_holds_91 rfl ?_
            refine e_land 93 dX2_holds_92 rfl ?_
            refine e_lor 94 dX2_holds_93 rfl ?_
            rw [L_or (by omega) (by omega)]
            refine e_lstore (lsn := [(4, _), (0, _), (1, _), (2, _), (3, _), (6, _)]) 96 dX2_holds_94 (by decide) rfl rfl ?_
            refine e_goto 123 dX2_holds_96 (by decide) ?_
            refine e_iinc (lsn := [(6, _), (4, _), (0, _), (1, _), (2, _), (3, _)]) 126 dX2_holds_123 rfl (by decide) rfl rfl ?_
            refine e_goto 11 dX2_holds_126 (by decide) ?_
            refine e_ls (ls2 := [(0, _), (1, _), (2, _), (3, _), (4, _), (6, _)]) rfl ?_
            have es : stepL (M 929) p ii l = tOr l := by
              unfold stepL
              rw [if_neg (by omega), if_neg (by omega), if_pos (by omega)]
            rw [runL, es] at h
            obtain ⟨x, y, t, rfl⟩ := two_of hq.2.1
            rw [vL_or]
            exact ih _ (_ :: t) (by omega) (by omega) (by simp only [List.length_cons] at hlen ⊢; omega) (LWf_down hq.2.2) h
        · skip
          have hq := opc_7 hW b54
          refine e_lload 59 dX2_holds_57 rfl rfl ?_
          refine e_iconst 60 dX2_holds_59 rfl ?_
          refine e_lshr 61 dX2_holds_60 rfl ?_
          rw [L_shr (by omega)]
          refine e_lload 63 dX2_holds_61 rfl rfl ?_
          refine e_ldc2 (z := (-2)) 66 (ix := 34) wd_1065 (by decide) dX2_holds_63 rfl ?_
          refine e_lor 67 dX2_holds_66 rfl ?_
          refine e_land 68 dX2_holds_67 rfl ?_
          rw [L_and (by omega) (by omega)]
          refine e_lstore (lsn := [(4, _), (0, _), (1, _), (2, _), (3, _), (6, _)]) 70 dX2_holds_68 (by decide) rfl rfl ?_
          refine e_goto 123 dX2_holds_70 (by decide) ?_
          refine e_iinc (lsn := [(6, _), (4, _), (0, _), (1, _), (2, _), (3, _)]) 126 dX2_holds_123 rfl (by decide) rfl rfl ?_
          refine e_goto 11 dX2_holds_126 (by decide) ?_
          refine e_ls (ls2 := [(0, _), (1, _), (2, _), (3, _), (4, _), (6, _)]) rfl ?_
          have es : stepL (M 929) p ii l = tAnd l := by
            unfold stepL
            rw [if_neg (by omega), if_pos (by omega)]
          rw [runL, es] at h
          obtain ⟨x, y, t, rfl⟩ := two_of hq.2.1
          rw [vL_and]
          exact ih _ (_ :: t) (by omega) (by omega) (by simp only [List.length_cons] at hlen ⊢; omega) (LWf_down hq.2.2) h
      · skip
        have hq := opc_6 hW b33
        refine e_lload 38 dX2_holds_36 rfl rfl ?_
        refine e_lconst1 39 dX2_holds_38 rfl ?_
        refine e_lxor 40 dX2_holds_39 rfl ?_
        rw [L_xor (by omega)]
        refine e_lstore (lsn := [(4, _), (0, _), (1, _), (2, _), (3, _), (6, _)]) 42 dX2_holds_40 (by decide) rfl rfl ?_
        refine e_goto 123 dX2_holds_42 (by decide) ?_
        refine e_iinc (lsn := [(6, _), (4, _), (0, _), (1, _), (2, _), (3, _)]) 126 dX2_holds_123 rfl (by decide) rfl rfl ?_
        refine e_goto 11 dX2_holds_126 (by decide) ?_
        refine e_ls (ls2 := [(0, _), (1, _), (2, _), (3, _), (4, _), (6, _)]) rfl ?_
        have es : stepL (M 929) p ii l = tNot l := by
          unfold stepL
          rw [if_pos (by omega)]
        rw [runL, es] at h
        obtain ⟨b, t, rfl⟩ := one_of hq.2.1
        rw [vL_not]
        exact ih _ ((!b) :: t) (by omega) (by omega) hlen hq.2.2 h

theorem c_holds {look p k : Int} {M N : jM} {Q : Int → jM → Prop} (hC : CR M) (hN : NH M N) (hlk : 0 ≤ look ∧ look < M 929 65) (hp0 : 0 ≤ p) (hp1 : p < M 929 709) (hk : k = M 929 (710 + p)) (h1 : (runL (M 929) p (M 929 (74 + look) - M 929 (66 + look)).toNat (M 929 (66 + look)) []).headD false = true → Q 1 N) (h0 : (runL (M 929) p (M 929 (74 + look) - M 929 (66 + look)).toNat (M 929 (66 + look)) []).headD false = false → Q 0 N) : jCt yX2_holds cX2_holds 7 (some .boolean) 2 [jR 12, jI look, jR (84 + p), jR (56 + k)] N Q := by
  refine jCt_of mt_yX2_holds (Nat.le_of_ble_eq_true rfl) (fun X => ?_)
  have hl8 : look < 8 := by
    have := hC.lkr.1
    omega
  have hlr := (hC.lkr.2 look hlk.1 hlk.2).1
  have hlc := hC.lkc
  have hlc2 := hlc.2.1 look hlk.1 hlk.2
  have hp60 : p < 60 ∧ 0 ≤ k ∧ k < 12 := by
    have hg := hC.rng
    have hpr := (hC.plr hp0 hp1).1
    omega
  have nb1 : N 13 look = M 929 (66 + look) := by rw [hN _ _ (by omega), hlc2.1]
  have nb2 : N 13 (look + 1) = M 929 (74 + look) := by rw [hN _ _ (by omega), hlc2.2.1]
  refine e_lconst0 1 dX2_holds_0 rfl ?_
  refine e_lstore (lsn := [(4, _), (0, _), (1, _), (2, _), (3, _)]) 3 dX2_holds_1 (by decide) rfl rfl ?_
  refine e_aload_n (i := 0) 4 dX2_holds_3 rfl rfl rfl ?_
  refine e_getr (j := 2) 7 fl_2_9 dX2_holds_4 at_12 rfl rfl tp_12_2 rfl ?_
  refine e_iload_n (i := 1) 8 dX2_holds_7 rfl rfl rfl ?_
  refine e_iald 9 dX2_holds_8 ar_13 (by omega) (by omega) rfl (fun r8 => ?_)
  rw [nb1]
  refine e_istore (lsn := [(6, _), (4, _), (0, _), (1, _), (2, _), (3, _)]) 11 dX2_holds_9 (by decide) rfl rfl ?_
  refine e_ls (ls2 := [(0, _), (1, _), (2, _), (3, _), (4, _), (6, _)]) rfl ?_
  have hW := (hC.lkr.2 look hlk.1 hlk.2).2
  refine l_lkholds hC hN hlk hp0 hp1 hk (M 929 (74 + look) - M 929 (66 + look)).toNat _ [] (by omega) (by omega) (by simp only [List.length_nil]; omega) hW ?_
  by_cases e : (runL (M 929) p (M 929 (74 + look) - M 929 (66 + look)).toNat (M 929 (66 + look)) []).headD false = true
  · rw [if_pos e]
    exact h1 e
  · rw [if_neg e]
    exact h0 (by simpa using e)

theorem c_fitsLook {look p : Int} {M N : jM} {Q : Int → jM → Prop} (hC : CR M) (hN : NH M N) (hlk : 0 ≤ look ∧ look < M 929 65) (hp0 : 0 ≤ p) (hp1 : p < M 929 709) (h1 : fitV (M 929) look p = true → Q 1 N) (h0 : fitV (M 929) look p = false → Q 0 N) : jCt yX8_fitsLook cX8_fitsLook 4 (some .boolean) 3 [jR 1, jI look, jI p] N Q := by
  refine jCt_of mt_yX8_fitsLook (Nat.le_of_ble_eq_true rfl) (fun X => ?_)
  have hg := hC.rng
  have hp := hC.pl hp0 hp1
  have hpr := hC.plr hp0 hp1
  have n3 : N (84 + p) 0 = M 929 (710 + p) := by rw [hN _ _ (by omega), hp.1.1]
  have n6 : N (84 + p) 6 = M 929 (1010 + p) := by rw [hN _ _ (by omega), hp.1.2.2.2.2.2.2.1]
  unfold fitV at h1 h0
  refine e_aload_n (i := 0) 1 dX8_fitsLook_0 rfl rfl rfl ?_
  refine e_getr (j := 9) 4 fl_8_42 dX8_fitsLook_1 at_1 rfl rfl tp_1_9 rfl ?_
  refine e_iload_n (i := 2) 5 dX8_fitsLook_4 rfl rfl rfl ?_
  refine e_aald 6 dX8_fitsLook_5 ar_18 (by decide) (by omega) (by omega) (tp_pledge (by omega) (by omega)) rfl ?_
  refine e_astore_n (i := 3) (lsn := [(3, _), (0, _), (1, _), (2, _)]) 7 dX8_fitsLook_6 rfl (by decide) rfl rfl ?_
  refine e_aload_n (i := 3) 8 dX8_fitsLook_7 rfl rfl rfl ?_
  refine e_geti (j := 6) 11 fl_8_135 dX8_fitsLook_8 (at_pledge (by omega) (by omega)) (by decide) rfl rfl (fun r8 => ?_)
  refine e_if_ne 14 39 dX8_fitsLook_11 (by omega) (by decide) rfl (fun b11 => ?_) (fun b11 => ?_)
  · skip
    refine e_iconst 40 dX8_fitsLook_39 rfl ?_
    refine e_zret dX8_fitsLook_40 (by decide) ?_
    exact h0 (by rw [decide_eq_false (by omega), Bool.false_and])
  · skip
    refine e_aload_n (i := 0) 15 dX8_fitsLook_14 rfl rfl rfl ?_
    refine e_getr (j := 3) 18 fl_8_24 dX8_fitsLook_15 at_1 rfl rfl tp_1_3 rfl ?_
    refine e_iload_n (i := 1) 19 dX8_fitsLook_18 rfl rfl rfl ?_
    refine e_aload_n (i := 3) 20 dX8_fitsLook_19 rfl rfl rfl ?_
    refine e_aload_n (i := 0) 21 dX8_fitsLook_20 rfl rfl rfl ?_
    refine e_getr (j := 5) 24 fl_8_30 dX8_fitsLook_21 at_1 rfl rfl tp_1_5 rfl ?_
    refine e_aload_n (i := 3) 25 dX8_fitsLook_24 rfl rfl rfl ?_
    refine e_geti (j := 0) 28 fl_8_141 dX8_fitsLook_25 (at_pledge (by omega) (by omega)) (by decide) rfl rfl (fun r25 => ?_)
    refine e_aald 29 dX8_fitsLook_28 ar_16 (by decide) (by omega) (by omega) (tp_kind (by omega) (by omega)) rfl ?_
    refine e_callV 32 mt_yX2_holds mv_yX2_holds wd_1061 (by decide) dX8_fitsLook_29 at_12 jc_2 rfl rfl rfl (Nat.le_of_ble_eq_true rfl) (jroom (by decide)) rfl (c_holds hC hN hlk hp0 hp1 n3 (fun w29 => ?_) (fun w29 => ?_))
    · dsimp only [jpush]
      refine e_if_eq 35 39 dX8_fitsLook_32 (by decide) (by decide) rfl (fun h => absurd h (by decide)) (fun _ => ?_)
      refine e_iconst 36 dX8_fitsLook_35 rfl ?_
      refine e_goto 40 dX8_fitsLook_36 (by decide) ?_
      refine e_zret dX8_fitsLook_40 (by decide) ?_
      exact h1 (by rw [decide_eq_true (by omega), w29]; rfl)
    · dsimp only [jpush]
      refine e_if_eq 35 39 dX8_fitsLook_32 (by decide) (by decide) rfl (fun _ => ?_) (fun h => absurd h (by decide))
      refine e_iconst 40 dX8_fitsLook_39 rfl ?_
      refine e_zret dX8_fitsLook_40 (by decide) ?_
      exact h0 (by rw [w29, Bool.and_false])

def PR (Y : jM) : List Bool → Prop
  | [] => True
  | b :: t => Y 940 t.length = (if b = true then 1 else 0) ∧ PR Y t
theorem PR.set {Y : jM} {j v : Int} : ∀ {l : List Bool}, (l.length : Int) ≤ j → PR Y l → PR (jset Y 940 j v) l
  | [], _, _ => trivial
  | b :: t, h, q => by
    simp only [List.length_cons] at h
    exact ⟨by rw [jset_j (by omega)]; exact q.1, PR.set (by omega) q.2⟩
def P9 (N Y : jM) : Prop := ∀ k j, k ≠ 940 → Y k j = N k j
theorem P9.set {N Y : jM} (h : P9 N Y) {j v : Int} : P9 N (jset Y 940 j v) := fun k j e => by
  rw [jset_k e]
  exact h k j e
theorem P9.nr {M N Y : jM} (h : P9 N Y) (hN : NR M N) : NR M Y := fun k j a b => by
  rw [h k j (by omega)]
  exact hN k j a b
theorem lm_isFit {X : jX} {look p : Int} {M N : jM} {Q : Int → jM → Prop} (hR : RInv (M 929)) (hN : NR M N) (hlk : 0 ≤ look ∧ look < M 929 65) (hp0 : 0 ≤ p) (hp1 : p < M 929 709) : ∀ (f : Nat) (ii : Int) (l : List Bool) (Y : jM) (n : Int), M 929 (66 + look) ≤ ii → ii + f = M 929 (74 + look) → l.length ≤ 61 → LWf (M 929) f ii l.length → P9 N Y → PR Y l → n = l.length → ((runL (M 929) p f ii l).headD false = true → ∀ Y : jM, P9 N Y → Q 1 Y) → ((runL (M 929) p f ii l).headD false = false → ∀ Y : jM, P9 N Y → Q 0 Y) → jE X yX12_isFit cX12_isFit 6 (some .boolean) 3 Q Y 28 [(0, jR 928), (1, jI look), (2, jI p), (3, jI n), (4, jI ii)] [] := by
  have hlk2 := hR.2.2.2.2.2.2.2.2.2.2
  have hl8 : look < 8 := by
    have := hlk2.1
    omega
  have hlr := (hlk2.2 look hlk.1 hlk.2).1
  have hp60 : p < 60 := by
    have hg := hR.1
    unfold RCnt at hg
    omega
  intro f
  induction f with
  | zero =>
    intro ii l Y n h0a hi hlen hW hS hPR hn h1 h0
    have hNY := hS.nr hN
    have nb1 : Y 929 (66 + look) = M 929 (66 + look) := hNY _ _ (by omega) (by omega)
    have nb2 : Y 929 (74 + look) = M 929 (74 + look) := hNY _ _ (by omega) (by omega)
    have h1l : l.length = 1 := by
      unfold LWf at hW
      omega
    obtain ⟨b, rfl⟩ : ∃ b, l = [b] := List.length_eq_one_iff.mp h1l
    rw [runL] at h1 h0
    have hb : Y 940 0 = if b = true then 1 else 0 := hPR.1
    have hb2 : Y 940 0 = 0 ∨ Y 940 0 = 1 := by
      rw [hb]
      cases b
      · exact Or.inl rfl
      · exact Or.inr rfl
    refine e_iload 30 dX12_isFit_28 rfl rfl ?_
    refine e_aload_n (i := 0) 31 dX12_isFit_30 rfl rfl rfl ?_
    refine e_getr (j := 1) 34 fl_12_13 dX12_isFit_31 at_928 rfl rfl tp_928_1 rfl ?_
    refine e_bipush 36 dX12_isFit_34 (by decide) rfl ?_
    refine e_iload_n (i := 1) 37 dX12_isFit_36 rfl rfl rfl ?_
    refine e_iadd 38 dX12_isFit_37 rfl ?_
    refine e_iald 39 dX12_isFit_38 ar_929 (by omega) (by omega) rfl (fun r38 => ?_)
    refine e_icmp_ge 42 214 dX12_isFit_39 (by omega) (by omega) (by decide) rfl (fun b39 => ?_) (fun b39 => ?_)
    · skip
      refine e_aload_n (i := 0) 215 dX12_isFit_214 rfl rfl rfl ?_
      refine e_getr (j := 25) 218 fl_12_51 dX12_isFit_215 at_928 rfl rfl tp_928_25 rfl ?_
      refine e_iconst 219 dX12_isFit_218 rfl ?_
      refine e_zald 220 dX12_isFit_219 ar_940 (by decide) (by decide) rfl (fun r219 => ?_)
      refine e_zret dX12_isFit_220 (by omega) ?_
      cases b
      · rw [hb]
        exact h0 rfl Y hS
      · rw [hb]
        exact h1 rfl Y hS
    · omega
  | succ f ih =>
    intro ii l Y n h0a hi hlen hW hS hPR hn h1 h0
    have hNY := hS.nr hN
    have nb1 : Y 929 (66 + look) = M 929 (66 + look) := hNY _ _ (by omega) (by omega)
    have nb2 : Y 929 (74 + look) = M 929 (74 + look) := hNY _ _ (by omega) (by omega)
    have nop : Y 929 (82 + 2 * ii) = M 929 (82 + 2 * ii) := hNY _ _ (by omega) (by omega)
    have nnu : Y 929 (82 + 2 * ii + 1) = M 929 (83 + 2 * ii) := by rw [hNY _ _ (by omega) (by omega), show 82 + 2 * ii + 1 = 83 + 2 * ii by omega]
    have hnl : 0 ≤ n ∧ n ≤ 61 := by omega
    refine e_iload 30 dX12_isFit_28 rfl rfl ?_
    refine e_aload_n (i := 0) 31 dX12_isFit_30 rfl rfl rfl ?_
    refine e_getr (j := 1) 34 fl_12_13 dX12_isFit_31 at_928 rfl rfl tp_928_1 rfl ?_
    refine e_bipush 36 dX12_isFit_34 (by decide) rfl ?_
    refine e_iload_n (i := 1) 37 dX12_isFit_36 rfl rfl rfl ?_
    refine e_iadd 38 dX12_isFit_37 rfl ?_
    refine e_iald 39 dX12_isFit_38 ar_929 (by omega) (by omega) rfl (fun r38 => ?_)
    refine e_icmp_ge 42 214 dX12_isFit_39 (by omega) (by omega) (by decide) rfl (fun b39 => ?_) (fun b39 => ?_)
    · omega
    · skip
      refine e_aload_n (i := 0) 43 dX12_isFit_42 rfl rfl rfl ?_
      refine e_getr (j := 1) 46 fl_12_13 dX12_isFit_43 at_928 rfl rfl tp_928_1 rfl ?_
      refine e_bipush 48 dX12_isFit_46 (by decide) rfl ?_
      refine e_iconst 49 dX12_isFit_48 rfl ?_
      refine e_iload 51 dX12_isFit_49 rfl rfl ?_
      refine e_imul 52 dX12_isFit_51 rfl ?_
      refine e_iadd 53 dX12_isFit_52 rfl ?_
      refine e_iald 54 dX12_isFit_53 ar_929 (by omega) (by omega) rfl (fun r53 => ?_)
      rw [nop] at r53 ⊢
      refine e_istore (lsn := [(5, _), (0, _), (1, _), (2, _), (3, _), (4, _)]) 56 dX12_isFit_54 (by decide) rfl rfl ?_
      refine e_iload 58 dX12_isFit_56 rfl rfl ?_
      refine e_bipush 60 dX12_isFit_58 (by decide) rfl ?_
      refine e_icmp_ne 63 90 dX12_isFit_60 (by omega) (by decide) (by decide) rfl (fun b60 => ?_) (fun b60 => ?_)
      · skip
        refine e_iload 92 dX12_isFit_90 rfl rfl ?_
        refine e_bipush 94 dX12_isFit_92 (by decide) rfl ?_
        refine e_icmp_eq 97 104 dX12_isFit_94 (by omega) (by decide) (by decide) rfl (fun b94 => ?_) (fun b94 => ?_)
        · skip
          have hq := opr_2 hW (by omega)
          have es : stepL (M 929) p ii l = tAnd l := by
            unfold stepL
            rw [if_neg (by omega), if_pos (by omega)]
          rw [runL, es] at h1 h0
          obtain ⟨x, y, t, rfl⟩ := two_of hq.1
          have hn2 : n = (t.length : Int) + 2 := by simp only [List.length_cons] at hn; omega
          have hx := hPR.1
          have hy := hPR.2.1
          simp only [List.length_cons] at hx
          rw [show ((t.length + 1 : Nat) : Int) = n + -1 by omega] at hx
          rw [show (t.length : Int) = n + -1 - 1 by omega] at hy
          refine e_iinc (lsn := [(3, _), (5, _), (0, _), (1, _), (2, _), (4, _)]) 107 dX12_isFit_104 rfl (by decide) rfl rfl ?_
          refine e_aload_n (i := 0) 108 dX12_isFit_107 rfl rfl rfl ?_
          refine e_getr (j := 25) 111 fl_12_51 dX12_isFit_108 at_928 rfl rfl tp_928_25 rfl ?_
          refine e_iload_n (i := 3) 112 dX12_isFit_111 rfl rfl rfl ?_
          refine e_iconst 113 dX12_isFit_112 rfl ?_
          refine e_isub 114 dX12_isFit_113 rfl ?_
          refine e_iload 116 dX12_isFit_114 rfl rfl ?_
          refine e_bipush 118 dX12_isFit_116 (by decide) rfl ?_
          refine e_icmp_ne 121 149 dX12_isFit_118 (by omega) (by decide) (by decide) rfl (fun b118 => ?_) (fun b118 => ?_)
          · skip
            refine e_aload_n (i := 0) 150 dX12_isFit_149 rfl rfl rfl ?_
            refine e_getr (j := 25) 153 fl_12_51 dX12_isFit_150 at_928 rfl rfl tp_928_25 rfl ?_
            refine e_iload_n (i := 3) 154 dX12_isFit_153 rfl rfl rfl ?_
            refine e_iconst 155 dX12_isFit_154 rfl ?_
            refine e_isub 156 dX12_isFit_155 rfl ?_
            refine e_zald 157 dX12_isFit_156 ar_940 (by omega) (by omega) rfl (fun r156 => ?_)
            refine e_if_ne 160 169 dX12_isFit_157 (by omega) (by decide) rfl (fun b157 => ?_) (fun b157 => ?_)
            · skip
              refine e_iconst 170 dX12_isFit_169 rfl ?_
              refine e_goto 174 dX12_isFit_170 (by decide) ?_
              refine e_zast 175 dX12_isFit_174 ar_940 (by omega) (by omega) (by decide) rfl ?_
              refine e_goto 208 dX12_isFit_175 (by decide) ?_
              refine e_iinc (lsn := [(4, _), (3, _), (5, _), (0, _), (1, _), (2, _)]) 211 dX12_isFit_208 rfl (by decide) rfl rfl ?_
              refine e_goto 28 dX12_isFit_211 (by decide) ?_
              refine e_ls (ls2 := [(0, _), (1, _), (2, _), (3, _), (4, _)]) rfl ?_
              first
                | (exfalso; omega)
                | (refine ih _ ((y && x) :: t) _ _ (by omega) (by omega) (by simp only [List.length_cons] at hlen ⊢; omega) (LWf_down hq.2) (hS.set) ⟨?_, hPR.2.2.set (by omega)⟩ (by simp only [List.length_cons]; omega) h1 h0
                   rw [show (t.length : Int) = n + -1 - 1 by omega, jset_same]
                   cases x <;> cases y <;> first | rfl | (exfalso; simp at hx hy; omega))
            · skip
              refine e_aload_n (i := 0) 161 dX12_isFit_160 rfl rfl rfl ?_
              refine e_getr (j := 25) 164 fl_12_51 dX12_isFit_161 at_928 rfl rfl tp_928_25 rfl ?_
              refine e_iload_n (i := 3) 165 dX12_isFit_164 rfl rfl rfl ?_
              refine e_zald 166 dX12_isFit_165 ar_940 (by omega) (by omega) rfl (fun r165 => ?_)
              refine e_if_eq 169 173 dX12_isFit_166 (by omega) (by decide) rfl (fun b166 => ?_) (fun b166 => ?_)
              · skip
                refine e_iconst 174 dX12_isFit_173 rfl ?_
                refine e_zast 175 dX12_isFit_174 ar_940 (by omega) (by omega) (by decide) rfl ?_
                refine e_goto 208 dX12_isFit_175 (by decide) ?_
                refine e_iinc (lsn := [(4, _), (3, _), (5, _), (0, _), (1, _), (2, _)]) 211 dX12_isFit_208 rfl (by decide) rfl rfl ?_
                refine e_goto 28 dX12_isFit_211 (by decide) ?_
                refine e_ls (ls2 := [(0, _), (1, _), (2, _), (3, _), (4, _)]) rfl ?_
                first
                  | (exfalso; omega)
                  | (refine ih _ ((y && x) :: t) _ _ (by omega) (by omega) (by simp only [List.length_cons] at hlen ⊢; omega) (LWf_down hq.2) (hS.set) ⟨?_, hPR.2.2.set (by omega)⟩ (by simp only [List.length_cons]; omega) h1 h0
                     rw [show (t.length : Int) = n + -1 - 1 by omega, jset_same]
                     cases x <;> cases y <;> first | rfl | (exfalso; simp at hx hy; omega))
              · skip
                refine e_iconst 170 dX12_isFit_169 rfl ?_
                refine e_goto 174 dX12_isFit_170 (by decide) ?_
                refine e_zast 175 dX12_isFit_174 ar_940 (by omega) (by omega) (by decide) rfl ?_
                refine e_goto 208 dX12_isFit_175 (by decide) ?_
                refine e_iinc (lsn := [(4, _), (3, _), (5, _), (0, _), (1, _), (2, _)]) 211 dX12_isFit_208 rfl (by decide) rfl rfl ?_
                refine e_goto 28 dX12_isFit_211 (by decide) ?_
                refine e_ls (ls2 := [(0, _), (1, _), (2, _), (3, _), (4, _)]) rfl ?_
                first
                  | (exfalso; omega)
                  | (refine ih _ ((y && x) :: t) _ _ (by omega) (by omega) (by simp only [List.length_cons] at hlen ⊢; omega) (LWf_down hq.2) (hS.set) ⟨?_, hPR.2.2.set (by omega)⟩ (by simp only [List.length_cons]; omega) h1 h0
                     rw [show (t.length : Int) = n + -1 - 1 by omega, jset_same]
                     cases x <;> cases y <;> first | rfl | (exfalso; simp at hx hy; omega))
          · skip
            refine e_aload_n (i := 0) 122 dX12_isFit_121 rfl rfl rfl ?_
            refine e_getr (j := 25) 125 fl_12_51 dX12_isFit_122 at_928 rfl rfl tp_928_25 rfl ?_
            refine e_iload_n (i := 3) 126 dX12_isFit_125 rfl rfl rfl ?_
            refine e_iconst 127 dX12_isFit_126 rfl ?_
            refine e_isub 128 dX12_isFit_127 rfl ?_
            refine e_zald 129 dX12_isFit_128 ar_940 (by omega) (by omega) rfl (fun r128 => ?_)
            refine e_if_eq 132 145 dX12_isFit_129 (by omega) (by decide) rfl (fun b129 => ?_) (fun b129 => ?_)
            · skip
              refine e_iconst 146 dX12_isFit_145 rfl ?_
              refine e_goto 174 dX12_isFit_146 (by decide) ?_
              refine e_zast 175 dX12_isFit_174 ar_940 (by omega) (by omega) (by decide) rfl ?_
              refine e_goto 208 dX12_isFit_175 (by decide) ?_
              refine e_iinc (lsn := [(4, _), (3, _), (5, _), (0, _), (1, _), (2, _)]) 211 dX12_isFit_208 rfl (by decide) rfl rfl ?_
              refine e_goto 28 dX12_isFit_211 (by decide) ?_
              refine e_ls (ls2 := [(0, _), (1, _), (2, _), (3, _), (4, _)]) rfl ?_
              first
                | (exfalso; omega)
                | (refine ih _ ((y && x) :: t) _ _ (by omega) (by omega) (by simp only [List.length_cons] at hlen ⊢; omega) (LWf_down hq.2) (hS.set) ⟨?_, hPR.2.2.set (by omega)⟩ (by simp only [List.length_cons]; omega) h1 h0
                   rw [show (t.length : Int) = n + -1 - 1 by omega, jset_same]
                   cases x <;> cases y <;> first | rfl | (exfalso; simp at hx hy; omega))
            · skip
              refine e_aload_n (i := 0) 133 dX12_isFit_132 rfl rfl rfl ?_
              refine e_getr (j := 25) 136 fl_12_51 dX12_isFit_133 at_928 rfl rfl tp_928_25 rfl ?_
              refine e_iload_n (i := 3) 137 dX12_isFit_136 rfl rfl rfl ?_
              refine e_zald 138 dX12_isFit_137 ar_940 (by omega) (by omega) rfl (fun r137 => ?_)
              refine e_if_eq 141 145 dX12_isFit_138 (by omega) (by decide) rfl (fun b138 => ?_) (fun b138 => ?_)
              · skip
                refine e_iconst 146 dX12_isFit_145 rfl ?_
                refine e_goto 174 dX12_isFit_146 (by decide) ?_
                refine e_zast 175 dX12_isFit_174 ar_940 (by omega) (by omega) (by decide) rfl ?_
                refine e_goto 208 dX12_isFit_175 (by decide) ?_
                refine e_iinc (lsn := [(4, _), (3, _), (5, _), (0, _), (1, _), (2, _)]) 211 dX12_isFit_208 rfl (by decide) rfl rfl ?_
                refine e_goto 28 dX12_isFit_211 (by decide) ?_
                refine e_ls (ls2 := [(0, _), (1, _), (2, _), (3, _), (4, _)]) rfl ?_
                first
                  | (exfalso; omega)
                  | (refine ih _ ((y && x) :: t) _ _ (by omega) (by omega) (by simp only [List.length_cons] at hlen ⊢; omega) (LWf_down hq.2) (hS.set) ⟨?_, hPR.2.2.set (by omega)⟩ (by simp only [List.length_cons]; omega) h1 h0
                     rw [show (t.length : Int) = n + -1 - 1 by omega, jset_same]
                     cases x <;> cases y <;> first | rfl | (exfalso; simp at hx hy; omega))
              · skip
                refine e_iconst 142 dX12_isFit_141 rfl ?_
                refine e_goto 174 dX12_isFit_142 (by decide) ?_
                refine e_zast 175 dX12_isFit_174 ar_940 (by omega) (by omega) (by decide) rfl ?_
                refine e_goto 208 dX12_isFit_175 (by decide) ?_
                refine e_iinc (lsn := [(4, _), (3, _), (5, _), (0, _), (1, _), (2, _)]) 211 dX12_isFit_208 rfl (by decide) rfl rfl ?_
                refine e_goto 28 dX12_isFit_211 (by decide) ?_
                refine e_ls (ls2 := [(0, _), (1, _), (2, _), (3, _), (4, _)]) rfl ?_
                first
                  | (exfalso; omega)
                  | (refine ih _ ((y && x) :: t) _ _ (by omega) (by omega) (by simp only [List.length_cons] at hlen ⊢; omega) (LWf_down hq.2) (hS.set) ⟨?_, hPR.2.2.set (by omega)⟩ (by simp only [List.length_cons]; omega) h1 h0
                     rw [show (t.length : Int) = n + -1 - 1 by omega, jset_same]
                     cases x <;> cases y <;> first | rfl | (exfalso; simp at hx hy; omega))
        · skip
          refine e_iload 99 dX12_isFit_97 rfl rfl ?_
          refine e_bipush 101 dX12_isFit_99 (by decide) rfl ?_
          refine e_icmp_ne 104 178 dX12_isFit_101 (by omega) (by decide) (by decide) rfl (fun b101 => ?_) (fun b101 => ?_)
          · skip
            have hq := opr_r hW (by omega) (by omega) (by omega)
            refine e_aload_n (i := 0) 179 dX12_isFit_178 rfl rfl rfl ?_
            refine e_getr (j := 25) 182 fl_12_51 dX12_isFit_179 at_928 rfl rfl tp_928_25 rfl ?_
            refine e_iload_n (i := 3) 183 dX12_isFit_182 rfl rfl rfl ?_
            refine e_aload_n (i := 0) 184 dX12_isFit_183 rfl rfl rfl ?_
            refine e_iload 186 dX12_isFit_184 rfl rfl ?_
            refine e_aload_n (i := 0) 187 dX12_isFit_186 rfl rfl rfl ?_
            refine e_getr (j := 1) 190 fl_12_13 dX12_isFit_187 at_928 rfl rfl tp_928_1 rfl ?_
            refine e_bipush 192 dX12_isFit_190 (by decide) rfl ?_
            refine e_iconst 193 dX12_isFit_192 rfl ?_
            refine e_iload 195 dX12_isFit_193 rfl rfl ?_
            refine e_imul 196 dX12_isFit_195 rfl ?_
            refine e_iadd 197 dX12_isFit_196 rfl ?_
            refine e_iconst 198 dX12_isFit_197 rfl ?_
            refine e_iadd 199 dX12_isFit_198 rfl ?_
            refine e_iald 200 dX12_isFit_199 ar_929 (by omega) (by omega) rfl (fun r199 => ?_)
            rw [nnu] at r199 ⊢
            refine e_iload_n (i := 2) 201 dX12_isFit_200 rfl rfl rfl ?_
            refine e_callV 204 mt_yX12_fact mv_yX12_fact wd_1704 (by decide) dX12_isFit_201 at_928 jc_12 rfl rfl rfl (Nat.le_of_ble_eq_true rfl) (jroom (by decide)) rfl (m_fact hR hNY (by omega) (by omega) hp0 hp1 (fun w201 => ?_) (fun w201 => ?_))
            · dsimp only [jpush]
              refine e_zast 205 dX12_isFit_204 ar_940 (by omega) (by omega) (by decide) rfl ?_
              refine e_iinc (lsn := [(3, _), (5, _), (0, _), (1, _), (2, _), (4, _)]) 208 dX12_isFit_205 rfl (by decide) rfl rfl ?_
              refine e_iinc (lsn := [(4, _), (3, _), (5, _), (0, _), (1, _), (2, _)]) 211 dX12_isFit_208 rfl (by decide) rfl rfl ?_
              refine e_goto 28 dX12_isFit_211 (by decide) ?_
              refine e_ls (ls2 := [(0, _), (1, _), (2, _), (3, _), (4, _)]) rfl ?_
              have es : stepL (M 929) p ii l = decide (rFactP (M 929) (M 929 (82 + 2 * ii)) (M 929 (83 + 2 * ii)) p) :: l := by
                unfold stepL
                rw [if_neg (by omega), if_neg (by omega), if_neg (by omega)]
              rw [runL, es] at h1 h0
              rw [decide_eq_true w201] at h1 h0
              refine ih _ (true :: l) _ _ (by omega) (by omega) (by simp only [List.length_cons]; omega) (LWf_up hq.2.2) (hS.set) ⟨?_, hPR.set (by omega)⟩ (by simp only [List.length_cons]; omega) h1 h0
              rw [← hn, jset_same]
              rfl
            · dsimp only [jpush]
              refine e_zast 205 dX12_isFit_204 ar_940 (by omega) (by omega) (by decide) rfl ?_
              refine e_iinc (lsn := [(3, _), (5, _), (0, _), (1, _), (2, _), (4, _)]) 208 dX12_isFit_205 rfl (by decide) rfl rfl ?_
              refine e_iinc (lsn := [(4, _), (3, _), (5, _), (0, _), (1, _), (2, _)]) 211 dX12_isFit_208 rfl (by decide) rfl rfl ?_
              refine e_goto 28 dX12_isFit_211 (by decide) ?_
              refine e_ls (ls2 := [(0, _), (1, _), (2, _), (3, _), (4, _)]) rfl ?_
              have es : stepL (M 929) p ii l = decide (rFactP (M 929) (M 929 (82 + 2 * ii)) (M 929 (83 + 2 * ii)) p) :: l := by
                unfold stepL
                rw [if_neg (by omega), if_neg (by omega), if_neg (by omega)]
              rw [runL, es] at h1 h0
              rw [decide_eq_false w201] at h1 h0
              refine ih _ (false :: l) _ _ (by omega) (by omega) (by simp only [List.length_cons]; omega) (LWf_up hq.2.2) (hS.set) ⟨?_, hPR.set (by omega)⟩ (by simp only [List.length_cons]; omega) h1 h0
              rw [← hn, jset_same]
              rfl
          · skip
            have hq := opr_2 hW (by omega)
            have es : stepL (M 929) p ii l = tOr l := by
              unfold stepL
              rw [if_neg (by omega), if_neg (by omega), if_pos (by omega)]
            rw [runL, es] at h1 h0
            obtain ⟨x, y, t, rfl⟩ := two_of hq.1
            have hn2 : n = (t.length : Int) + 2 := by simp only [List.length_cons] at hn; omega
            have hx := hPR.1
            have hy := hPR.2.1
            simp only [List.length_cons] at hx
            rw [show ((t.length + 1 : Nat) : Int) = n + -1 by omega] at hx
            rw [show (t.length : Int) = n + -1 - 1 by omega] at hy
            refine e_iinc (lsn := [(3, _), (5, _), (0, _), (1, _), (2, _), (4, _)]) 107 dX12_isFit_104 rfl (by decide) rfl rfl ?_
            refine e_aload_n (i := 0) 108 dX12_isFit_107 rfl rfl rfl ?_
            refine e_getr (j := 25) 111 fl_12_51 dX12_isFit_108 at_928 rfl rfl tp_928_25 rfl ?_
            refine e_iload_n (i := 3) 112 dX12_isFit_111 rfl rfl rfl ?_
            refine e_iconst 113 dX12_isFit_112 rfl ?_
            refine e_isub 114 dX12_isFit_113 rfl ?_
            refine e_iload 116 dX12_isFit_114 rfl rfl ?_
            refine e_bipush 118 dX12_isFit_116 (by decide) rfl ?_
            refine e_icmp_ne 121 149 dX12_isFit_118 (by omega) (by decide) (by decide) rfl (fun b118 => ?_) (fun b118 => ?_)
            · skip
              refine e_aload_n (i := 0) 150 dX12_isFit_149 rfl rfl rfl ?_
              refine e_getr (j := 25) 153 fl_12_51 dX12_isFit_150 at_928 rfl rfl tp_928_25 rfl ?_
              refine e_iload_n (i := 3) 154 dX12_isFit_153 rfl rfl rfl ?_
              refine e_iconst 155 dX12_isFit_154 rfl ?_
              refine e_isub 156 dX12_isFit_155 rfl ?_
              refine e_zald 157 dX12_isFit_156 ar_940 (by omega) (by omega) rfl (fun r156 => ?_)
              refine e_if_ne 160 169 dX12_isFit_157 (by omega) (by decide) rfl (fun b157 => ?_) (fun b157 => ?_)
              · skip
                refine e_iconst 170 dX12_isFit_169 rfl ?_
                refine e_goto 174 dX12_isFit_170 (by decide) ?_
                refine e_zast 175 dX12_isFit_174 ar_940 (by omega) (by omega) (by decide) rfl ?_
                refine e_goto 208 dX12_isFit_175 (by decide) ?_
                refine e_iinc (lsn := [(4, _), (3, _), (5, _), (0, _), (1, _), (2, _)]) 211 dX12_isFit_208 rfl (by decide) rfl rfl ?_
                refine e_goto 28 dX12_isFit_211 (by decide) ?_
                refine e_ls (ls2 := [(0, _), (1, _), (2, _), (3, _), (4, _)]) rfl ?_
                first
                  | (exfalso; omega)
                  | (refine ih _ ((y || x) :: t) _ _ (by omega) (by omega) (by simp only [List.length_cons] at hlen ⊢; omega) (LWf_down hq.2) (hS.set) ⟨?_, hPR.2.2.set (by omega)⟩ (by simp only [List.length_cons]; omega) h1 h0
                     rw [show (t.length : Int) = n + -1 - 1 by omega, jset_same]
                     cases x <;> cases y <;> first | rfl | (exfalso; simp at hx hy; omega))
              · skip
                refine e_aload_n (i := 0) 161 dX12_isFit_160 rfl rfl rfl ?_
                refine e_getr (j := 25) 164 fl_12_51 dX12_isFit_161 at_928 rfl rfl tp_928_25 rfl ?_
                refine e_iload_n (i := 3) 165 dX12_isFit_164 rfl rfl rfl ?_
                refine e_zald 166 dX12_isFit_165 ar_940 (by omega) (by omega) rfl (fun r165 => ?_)
                refine e_if_eq 169 173 dX12_isFit_166 (by omega) (by decide) rfl (fun b166 => ?_) (fun b166 => ?_)
                · skip
                  refine e_iconst 174 dX12_isFit_173 rfl ?_
                  refine e_zast 175 dX12_isFit_174 ar_940 (by omega) (by omega) (by decide) rfl ?_
                  refine e_goto 208 dX12_isFit_175 (by decide) ?_
                  refine e_iinc (lsn := [(4, _), (3, _), (5, _), (0, _), (1, _), (2, _)]) 211 dX12_isFit_208 rfl (by decide) rfl rfl ?_
                  refine e_goto 28 dX12_isFit_211 (by decide) ?_
                  refine e_ls (ls2 := [(0, _), (1, _), (2, _), (3, _), (4, _)]) rfl ?_
                  first
                    | (exfalso; omega)
                    | (refine ih _ ((y || x) :: t) _ _ (by omega) (by omega) (by simp only [List.length_cons] at hlen ⊢; omega) (LWf_down hq.2) (hS.set) ⟨?_, hPR.2.2.set (by omega)⟩ (by simp only [List.length_cons]; omega) h1 h0
                       rw [show (t.length : Int) = n + -1 - 1 by omega, jset_same]
                       cases x <;> cases y <;> first | rfl | (exfalso; simp at hx hy; omega))
                · skip
                  refine e_iconst 170 dX12_isFit_169 rfl ?_
                  refine e_goto 174 dX12_isFit_170 (by decide) ?_
                  refine e_zast 175 dX12_isFit_174 ar_940 (by omega) (by omega) (by decide) rfl ?_
                  refine e_goto 208 dX12_isFit_175 (by decide) ?_
                  refine e_iinc (lsn := [(4, _), (3, _), (5, _), (0, _), (1, _), (2, _)]) 211 dX12_isFit_208 rfl (by decide) rfl rfl ?_
                  refine e_goto 28 dX12_isFit_211 (by decide) ?_
                  refine e_ls (ls2 := [(0, _), (1, _), (2, _), (3, _), (4, _)]) rfl ?_
                  first
                    | (exfalso; omega)
                    | (refine ih _ ((y || x) :: t) _ _ (by omega) (by omega) (by simp only [List.length_cons] at hlen ⊢; omega) (LWf_down hq.2) (hS.set) ⟨?_, hPR.2.2.set (by omega)⟩ (by simp only [List.length_cons]; omega) h1 h0
                       rw [show (t.length : Int) = n + -1 - 1 by omega, jset_same]
                       cases x <;> cases y <;> first | rfl | (exfalso; simp at hx hy; omega))
            · skip
              refine e_aload_n (i := 0) 122 dX12_isFit_121 rfl rfl rfl ?_
              refine e_getr (j := 25) 125 fl_12_51 dX12_isFit_122 at_928 rfl rfl tp_928_25 rfl ?_
              refine e_iload_n (i := 3) 126 dX12_isFit_125 rfl rfl rfl ?_
              refine e_iconst 127 dX12_isFit_126 rfl ?_
              refine e_isub 128 dX12_isFit_127 rfl ?_
              refine e_zald 129 dX12_isFit_128 ar_940 (by omega) (by omega) rfl (fun r128 => ?_)
              refine e_if_eq 132 145 dX12_isFit_129 (by omega) (by decide) rfl (fun b129 => ?_) (fun b129 => ?_)
              · skip
                refine e_iconst 146 dX12_isFit_145 rfl ?_
                refine e_goto 174 dX12_isFit_146 (by decide) ?_
                refine e_zast 175 dX12_isFit_174 ar_940 (by omega) (by omega) (by decide) rfl ?_
                refine e_goto 208 dX12_isFit_175 (by decide) ?_
                refine e_iinc (lsn := [(4, _), (3, _), (5, _), (0, _), (1, _), (2, _)]) 211 dX12_isFit_208 rfl (by decide) rfl rfl ?_
                refine e_goto 28 dX12_isFit_211 (by decide) ?_
                refine e_ls (ls2 := [(0, _), (1, _), (2, _), (3, _), (4, _)]) rfl ?_
                first
                  | (exfalso; omega)
                  | (refine ih _ ((y || x) :: t) _ _ (by omega) (by omega) (by simp only [List.length_cons] at hlen ⊢; omega) (LWf_down hq.2) (hS.set) ⟨?_, hPR.2.2.set (by omega)⟩ (by simp only [List.length_cons]; omega) h1 h0
                     rw [show (t.length : Int) = n + -1 - 1 by omega, jset_same]
                     cases x <;> cases y <;> first | rfl | (exfalso; simp at hx hy; omega))
              · skip
                refine e_aload_n (i := 0) 133 dX12_isFit_132 rfl rfl rfl ?_
                refine e_getr (j := 25) 136 fl_12_51 dX12_isFit_133 at_928 rfl rfl tp_928_25 rfl ?_
                refine e_iload_n (i := 3) 137 dX12_isFit_136 rfl rfl rfl ?_
                refine e_zald 138 dX12_isFit_137 ar_940 (by omega) (by omega) rfl (fun r137 => ?_)
                refine e_if_eq 141 145 dX12_isFit_138 (by omega) (by decide) rfl (fun b138 => ?_) (fun b138 => ?_)
                · skip
                  refine e_iconst 146 dX12_isFit_145 rfl ?_
                  refine e_goto 174 dX12_isFit_146 (by decide) ?_
                  refine e_zast 175 dX12_isFit_174 ar_940 (by omega) (by omega) (by decide) rfl ?_
                  refine e_goto 208 dX12_isFit_175 (by decide) ?_
                  refine e_iinc (lsn := [(4, _), (3, _), (5, _), (0, _), (1, _), (2, _)]) 211 dX12_isFit_208 rfl (by decide) rfl rfl ?_
                  refine e_goto 28 dX12_isFit_211 (by decide) ?_
                  refine e_ls (ls2 := [(0, _), (1, _), (2, _), (3, _), (4, _)]) rfl ?_
                  first
                    | (exfalso; omega)
                    | (refine ih _ ((y || x) :: t) _ _ (by omega) (by omega) (by simp only [List.length_cons] at hlen ⊢; omega) (LWf_down hq.2) (hS.set) ⟨?_, hPR.2.2.set (by omega)⟩ (by simp only [List.length_cons]; omega) h1 h0
                       rw [show (t.length : Int) = n + -1 - 1 by omega, jset_same]
                       cases x <;> cases y <;> first | rfl | (exfalso; simp at hx hy; omega))
                · skip
                  refine e_iconst 142 dX12_isFit_141 rfl ?_
                  refine e_goto 174 dX12_isFit_142 (by decide) ?_
                  refine e_zast 175 dX12_isFit_174 ar_940 (by omega) (by omega) (by decide) rfl ?_
                  refine e_goto 208 dX12_isFit_175 (by decide) ?_
                  refine e_iinc (lsn := [(4, _), (3, _), (5, _), (0, _), (1, _), (2, _)]) 211 dX12_isFit_208 rfl (by decide) rfl rfl ?_
                  refine e_goto 28 dX12_isFit_211 (by decide) ?_
                  refine e_ls (ls2 := [(0, _), (1, _), (2, _), (3, _), (4, _)]) rfl ?_
                  first
                    | (exfalso; omega)
                    | (refine ih _ ((y || x) :: t) _ _ (by omega) (by omega) (by simp only [List.length_cons] at hlen ⊢; omega) (LWf_down hq.2) (hS.set) ⟨?_, hPR.2.2.set (by omega)⟩ (by simp only [List.length_cons]; omega) h1 h0
                       rw [show (t.length : Int) = n + -1 - 1 by omega, jset_same]
                       cases x <;> cases y <;> first | rfl | (exfalso; simp at hx hy; omega))
      · skip
        have hq := opr_13 hW (by omega)
        have es : stepL (M 929) p ii l = tNot l := by
          unfold stepL
          rw [if_pos (by omega)]
        rw [runL, es] at h1 h0
        obtain ⟨b, t, rfl⟩ := one_of hq.1
        have hn2 : n = (t.length : Int) + 1 := by simp only [List.length_cons] at hn; omega
        have hb := hPR.1
        rw [show (t.length : Int) = n - 1 by omega] at hb
        have hb2 := hPR.2
        refine e_aload_n (i := 0) 64 dX12_isFit_63 rfl rfl rfl ?_
        refine e_getr (j := 25) 67 fl_12_51 dX12_isFit_64 at_928 rfl rfl tp_928_25 rfl ?_
        refine e_iload_n (i := 3) 68 dX12_isFit_67 rfl rfl rfl ?_
        refine e_iconst 69 dX12_isFit_68 rfl ?_
        refine e_isub 70 dX12_isFit_69 rfl ?_
        refine e_aload_n (i := 0) 71 dX12_isFit_70 rfl rfl rfl ?_
        refine e_getr (j := 25) 74 fl_12_51 dX12_isFit_71 at_928 rfl rfl tp_928_25 rfl ?_
        refine e_iload_n (i := 3) 75 dX12_isFit_74 rfl rfl rfl ?_
        refine e_iconst 76 dX12_isFit_75 rfl ?_
        refine e_isub 77 dX12_isFit_76 rfl ?_
        refine e_zald 78 dX12_isFit_77 ar_940 (by omega) (by omega) rfl (fun r77 => ?_)
        refine e_if_ne 81 85 dX12_isFit_78 (by omega) (by decide) rfl (fun b78 => ?_) (fun b78 => ?_)
        · skip
          refine e_iconst 86 dX12_isFit_85 rfl ?_
          refine e_zast 87 dX12_isFit_86 ar_940 (by omega) (by omega) (by decide) rfl ?_
          refine e_goto 208 dX12_isFit_87 (by decide) ?_
          refine e_iinc (lsn := [(4, _), (5, _), (0, _), (1, _), (2, _), (3, _)]) 211 dX12_isFit_208 rfl (by decide) rfl rfl ?_
          refine e_goto 28 dX12_isFit_211 (by decide) ?_
          refine e_ls (ls2 := [(0, _), (1, _), (2, _), (3, _), (4, _)]) rfl ?_
          refine ih _ ((!b) :: t) _ _ (by omega) (by omega) hlen hq.2 (hS.set) ⟨?_, hb2.set (by omega)⟩ (by simp only [List.length_cons]; omega) h1 h0
          rw [show (t.length : Int) = n - 1 by omega, jset_same]
          cases b
          · first | rfl | (exfalso; simp at hb; omega)
          · first | rfl | (exfalso; simp at hb; omega)
        · skip
          refine e_iconst 82 dX12_isFit_81 rfl ?_
          refine e_goto 86 dX12_isFit_82 (by decide) ?_
          refine e_zast 87 dX12_isFit_86 ar_940 (by omega) (by omega) (by decide) rfl ?_
          refine e_goto 208 dX12_isFit_87 (by decide) ?_
          refine e_iinc (lsn := [(4, _), (5, _), (0, _), (1, _), (2, _), (3, _)]) 211 dX12_isFit_208 rfl (by decide) rfl rfl ?_
          refine e_goto 28 dX12_isFit_211 (by decide) ?_
          refine e_ls (ls2 := [(0, _), (1, _), (2, _), (3, _), (4, _)]) rfl ?_
          refine ih _ ((!b) :: t) _ _ (by omega) (by omega) hlen hq.2 (hS.set) ⟨?_, hb2.set (by omega)⟩ (by simp only [List.length_cons]; omega) h1 h0
          rw [show (t.length : Int) = n - 1 by omega, jset_same]
          cases b
          · first | rfl | (exfalso; simp at hb; omega)
          · first | rfl | (exfalso; simp at hb; omega)

theorem m_isFit {look p : Int} {M N : jM} {Q : Int → jM → Prop} (hR : RInv (M 929)) (hN : NR M N) (hlk : 0 ≤ look ∧ look < M 929 65) (hp0 : 0 ≤ p) (hp1 : p < M 929 709) (h1 : fitV (M 929) look p = true → ∀ Y : jM, P9 N Y → Q 1 Y) (h0 : fitV (M 929) look p = false → ∀ Y : jM, P9 N Y → Q 0 Y) : jCt yX12_isFit cX12_isFit 6 (some .boolean) 3 [jR 928, jI look, jI p] N Q := by
  refine jCt_of mt_yX12_isFit (Nat.le_of_ble_eq_true rfl) (fun X => ?_)
  have hlk2 := hR.2.2.2.2.2.2.2.2.2.2
  have hl8 : look < 8 := by
    have := hlk2.1
    omega
  have hlr := (hlk2.2 look hlk.1 hlk.2).1
  have hp60 : p < 60 := by
    have hg := hR.1
    unfold RCnt at hg
    omega
  have hpr := hR.2.2.2.2.2.1 p hp0 hp1
  have n6 : N 929 (1010 + p) = M 929 (1010 + p) := hN _ _ (by omega) (by omega)
  have nb1 : N 929 (66 + look) = M 929 (66 + look) := hN _ _ (by omega) (by omega)
  unfold fitV at h1 h0
  refine e_aload_n (i := 0) 1 dX12_isFit_0 rfl rfl rfl ?_
  refine e_getr (j := 1) 4 fl_12_13 dX12_isFit_1 at_928 rfl rfl tp_928_1 rfl ?_
  refine e_sipush 7 dX12_isFit_4 (by decide) rfl ?_
  refine e_iload_n (i := 2) 8 dX12_isFit_7 rfl rfl rfl ?_
  refine e_iadd 9 dX12_isFit_8 rfl ?_
  refine e_iald 10 dX12_isFit_9 ar_929 (by omega) (by omega) rfl (fun r9 => ?_)
  refine e_if_eq 13 15 dX12_isFit_10 (by omega) (by decide) rfl (fun b10 => ?_) (fun b10 => ?_)
  · skip
    refine e_iconst 16 dX12_isFit_15 rfl ?_
    refine e_istore_n (i := 3) (lsn := [(3, _), (0, _), (1, _), (2, _)]) 17 dX12_isFit_16 rfl (by decide) rfl rfl ?_
    refine e_aload_n (i := 0) 18 dX12_isFit_17 rfl rfl rfl ?_
    refine e_getr (j := 1) 21 fl_12_13 dX12_isFit_18 at_928 rfl rfl tp_928_1 rfl ?_
    refine e_bipush 23 dX12_isFit_21 (by decide) rfl ?_
    refine e_iload_n (i := 1) 24 dX12_isFit_23 rfl rfl rfl ?_
    refine e_iadd 25 dX12_isFit_24 rfl ?_
    refine e_iald 26 dX12_isFit_25 ar_929 (by omega) (by omega) rfl (fun r25 => ?_)
    rw [nb1]
    refine e_istore (lsn := [(4, _), (3, _), (0, _), (1, _), (2, _)]) 28 dX12_isFit_26 (by decide) rfl rfl ?_
    refine e_ls (ls2 := [(0, _), (1, _), (2, _), (3, _), (4, _)]) rfl ?_
    have hW := (hlk2.2 look hlk.1 hlk.2).2
    have hd : decide (M 929 (1010 + p) = 0) = true := decide_eq_true (by omega)
    rw [hd, Bool.true_and] at h1 h0
    exact lm_isFit hR hN hlk hp0 hp1 (M 929 (74 + look) - M 929 (66 + look)).toNat _ [] N 0 (by omega) (by omega) (by simp only [List.length_nil]; omega) hW (fun _ _ _ => rfl) trivial rfl h1 h0
  · skip
    refine e_iconst 14 dX12_isFit_13 rfl ?_
    refine e_zret dX12_isFit_14 (by decide) ?_
    exact h0 (by rw [decide_eq_false (by omega), Bool.false_and]) N (fun _ _ _ => rfl)

