/-! MATCHED *** the class *** -/
abbrev rMbP (a : Int → Int) (t p : Int) : Prop := a (1010 + p) = 0 ∧ a (710 + p) = a (3896 + t) ∧ a (3908 + t) ≤ a (1130 + p)
noncomputable def frst (P : Int → Prop) : Nat → Int → Int
  | 0, _ => -1
  | n + 1, p => @ite _ (P p) (Classical.propDecidable _) p (frst P n (p + 1))
theorem frst_ok {P : Int → Prop} : ∀ (n : Nat) (p : Int), 0 ≤ p → (frst P n p ≠ -1 → p ≤ frst P n p ∧ frst P n p < p + n ∧ P (frst P n p) ∧ ∀ q, p ≤ q → q < frst P n p → ¬ P q) ∧ (frst P n p = -1 → ∀ q, p ≤ q → q < p + n → ¬ P q)
  | 0, p, _ => ⟨fun h => absurd rfl h, fun _ q a b => by omega⟩
  | n + 1, p, h0 => by
    have ih := frst_ok (P := P) n (p + 1) (by omega)
    rw [frst]
    by_cases e : P p
    · rw [if_pos e]
      exact ⟨fun _ => ⟨by omega, by omega, e, fun q a b => by omega⟩, fun h => by omega⟩
    · rw [if_neg e]
      refine ⟨fun h => ?_, fun h q a b => ?_⟩
      · have i := ih.1 h
        refine ⟨by omega, by omega, i.2.2.1, fun q a b => ?_⟩
        by_cases z : q = p
        · rw [z]
          exact e
        · exact i.2.2.2 q (by omega) b
      · by_cases z : q = p
        · rw [z]
          exact e
        · exact ih.2 h q (by omega) (by omega)
noncomputable def gA (a : Int → Int) : Nat → Int → Int
  | 0, _ => -1
  | t + 1, j => if j = (t : Int) then frst (fun p => rMbP a t p ∧ ∀ s, 0 ≤ s → s < (t : Int) → gA a t s ≠ p) (a 709).toNat 0 else gA a t j
noncomputable def gM (a : Int → Int) : Int → Int := gA a (a 3895).toNat
theorem gA_st {a : Int → Int} {j : Int} {m : Nat} (hj : j < m) : ∀ n : Nat, m ≤ n → gA a n j = gA a m j
  | 0, h => by
    have e : m = 0 := by omega
    subst e
    rfl
  | n + 1, h => by
    by_cases e : m = n + 1
    · subst e
      rfl
    · rw [gA, if_neg (by omega)]
      exact gA_st hj n (by omega)
theorem gM_ok {a : Int → Int} : GrOk (rMbP a) (gM a) (a 709).toNat (a 3895).toNat := by
  intro t h0 h1
  have hs : ∀ s, s < t → gM a s = gA a t.toNat s := fun s hs => gA_st (by omega) _ (by omega)
  have ht : gM a t = frst (fun p => rMbP a t p ∧ ∀ s, 0 ≤ s → s < t → gM a s ≠ p) (a 709).toNat 0 := by
    have e := gA_st (a := a) (j := t) (m := t.toNat + 1) (by omega) (a 3895).toNat (by omega)
    show gA a (a 3895).toNat t = _
    rw [e, gA, if_pos (by omega), show ((t.toNat : Nat) : Int) = t by omega]
    congr 1
    funext p
    refine propext (and_congr Iff.rfl ⟨fun q s x y => by rw [hs s y]; exact q s x y, fun q s x y => by rw [← hs s y]; exact q s x y⟩)
  have hf := frst_ok (P := fun p => rMbP a t p ∧ ∀ s, 0 ≤ s → s < t → gM a s ≠ p) (a 709).toNat 0 (by omega)
  rw [← ht] at hf
  refine ⟨fun h => ?_, fun h p a1 a2 a3 => ?_⟩
  · have f := hf.1 h
    refine ⟨⟨f.1, by omega⟩, f.2.2.1.1, f.2.2.1.2, fun p p0 p1 p2 => ?_⟩
    exact Classical.byContradiction (fun q => f.2.2.2 p p0 p1 ⟨p2, fun s x y z => q ⟨s, x, y, z⟩⟩)
  · exact Classical.byContradiction (fun q => hf.2 h p (by omega) (by omega) ⟨a3, fun s x y z => q ⟨s, x, y, z⟩⟩)
theorem mb_ok {a : Int → Int} (h : RInv a) : MbOk (rMbP a) (fun t => a (3896 + t)) (fun t => a (3908 + t)) (fun p => a (710 + p)) (fun p => a (1130 + p)) (fun p => a (1010 + p) = 0) (a 709).toNat := by
  refine ⟨fun t p => Iff.rfl, fun p q a1 a2 a3 => ?_⟩
  have hg := h.1
  unfold RCnt at hg
  exact h.2.2.2.2.2.2.1 p q a1 a2 (by omega)
abbrev rLater (a : Int → Int) (t s u : Int) : Prop := Later (fun t => a (3896 + t)) (fun t => a (3908 + t)) (gM a) t s u
theorem c_mayBe {t p : Int} {M Y : jM} {Q : Int → jM → Prop} (hC : CR M) (hS : Scr M Y) (ht : 0 ≤ t ∧ t < M 929 3895) (hp : 0 ≤ p ∧ p < M 929 709) (h1 : rMbP (M 929) t p → Q 1 Y) (h0 : ¬ rMbP (M 929) t p → Q 0 Y) : jCt yX4_mayBe cX4_mayBe 4 (some .boolean) 1 [jR 1, jI t, jI p] Y Q := by
  refine jCt_of mt_yX4_mayBe (Nat.le_of_ble_eq_true rfl) (fun X => ?_)
  have hCY := hS.cr hC
  have e9 := hS.row
  have hn := hCY.cnt
  have hg := hCY.rng
  have e71 : Y 929 3895 = M 929 3895 := by rw [e9]
  have e72 : Y 929 709 = M 929 709 := by rw [e9]
  have hp2 := hCY.pl (p := p) (by omega) (by omega)
  have hl2 := hCY.ls (i := t) (by omega) (by omega)
  unfold rMbP at h1 h0
  rw [← e9] at h1 h0
  refine e_aload_n (i := 0) 1 dX4_mayBe_0 rfl rfl rfl ?_
  refine e_getr (j := 9) 4 fl_4_65 dX4_mayBe_1 at_1 rfl rfl tp_1_9 rfl ?_
  refine e_iload_n (i := 2) 5 dX4_mayBe_4 rfl rfl rfl ?_
  refine e_aald 6 dX4_mayBe_5 ar_18 (by decide) (by omega) (by omega) (tp_pledge (by omega) (by omega)) rfl ?_
  refine e_astore_n (i := 3) (lsn := [(3, _), (0, _), (1, _), (2, _)]) 7 dX4_mayBe_6 rfl (by decide) rfl rfl ?_
  refine e_aload_n (i := 3) 8 dX4_mayBe_7 rfl rfl rfl ?_
  refine e_geti (j := 6) 11 fl_4_99 dX4_mayBe_8 (at_pledge (by omega) (by omega)) (by decide) rfl rfl (fun r8 => ?_)
  refine e_if_ne 14 48 dX4_mayBe_11 (by omega) (by decide) rfl (fun b11 => ?_) (fun b11 => ?_)
  · skip
    refine e_iconst 49 dX4_mayBe_48 rfl ?_
    refine e_zret dX4_mayBe_49 (by decide) ?_
    first | exact h1 (by omega) | exact h0 (by omega)
  · skip
    refine e_aload_n (i := 3) 15 dX4_mayBe_14 rfl rfl rfl ?_
    refine e_geti (j := 0) 18 fl_4_81 dX4_mayBe_15 (at_pledge (by omega) (by omega)) (by decide) rfl rfl (fun r15 => ?_)
    refine e_aload_n (i := 0) 19 dX4_mayBe_18 rfl rfl rfl ?_
    refine e_getr (j := 18) 22 fl_4_189 dX4_mayBe_19 at_1 rfl rfl tp_1_18 rfl ?_
    refine e_iload_n (i := 1) 23 dX4_mayBe_22 rfl rfl rfl ?_
    refine e_aaldi 24 dX4_mayBe_23 ar_43 (by omega) (by omega) (tp_listrow (by omega) (by omega)) rfl ?_
    refine e_iconst 25 dX4_mayBe_24 rfl ?_
    refine e_iald 26 dX4_mayBe_25 (ar_listrow (by omega) (by omega)) (by decide) (by decide) rfl (fun r25 => ?_)
    refine e_icmp_ne 29 48 dX4_mayBe_26 (by omega) (by omega) (by decide) rfl (fun b26 => ?_) (fun b26 => ?_)
    · skip
      refine e_iconst 49 dX4_mayBe_48 rfl ?_
      refine e_zret dX4_mayBe_49 (by decide) ?_
      first | exact h1 (by omega) | exact h0 (by omega)
    · skip
      refine e_aload_n (i := 3) 30 dX4_mayBe_29 rfl rfl rfl ?_
      refine e_geti (j := 4) 33 fl_4_168 dX4_mayBe_30 (at_pledge (by omega) (by omega)) (by decide) rfl rfl (fun r30 => ?_)
      refine e_aload_n (i := 0) 34 dX4_mayBe_33 rfl rfl rfl ?_
      refine e_getr (j := 18) 37 fl_4_189 dX4_mayBe_34 at_1 rfl rfl tp_1_18 rfl ?_
      refine e_iload_n (i := 1) 38 dX4_mayBe_37 rfl rfl rfl ?_
      refine e_aaldi 39 dX4_mayBe_38 ar_43 (by omega) (by omega) (tp_listrow (by omega) (by omega)) rfl ?_
      refine e_iconst 40 dX4_mayBe_39 rfl ?_
      refine e_iald 41 dX4_mayBe_40 (ar_listrow (by omega) (by omega)) (by decide) (by decide) rfl (fun r40 => ?_)
      refine e_icmp_lt 44 48 dX4_mayBe_41 (by omega) (by omega) (by decide) rfl (fun b41 => ?_) (fun b41 => ?_)
      · skip
        refine e_iconst 49 dX4_mayBe_48 rfl ?_
        refine e_zret dX4_mayBe_49 (by decide) ?_
        first | exact h1 (by omega) | exact h0 (by omega)
      · skip
        refine e_iconst 45 dX4_mayBe_44 rfl ?_
        refine e_goto 49 dX4_mayBe_45 (by decide) ?_
        refine e_zret dX4_mayBe_49 (by decide) ?_
        first | exact h1 (by omega) | exact h0 (by omega)

theorem l_cand {X : jX} {t : Int} {M Y : jM} {Q : Int → jM → Prop} (hC : CR M) (hS : Scr M Y) (ht : 0 ≤ t ∧ t < M 929 3895) (h : Q (cP (rMbP (M 929) t) (M 929 709).toNat : Nat) Y) : ∀ n i : Nat, (i : Int) + n = M 929 709 → ∀ c ii : Int, ii = i → c = (cP (rMbP (M 929) t) i : Nat) → jE X yX4_candidates cX4_candidates 5 (some .int) 2 Q Y 5 [(0, jR 903), (1, jR 1), (2, jI t), (3, jI c), (4, jI ii)] [] := by
  have hCY := hS.cr hC
  have e9 := hS.row
  have hn := hCY.cnt
  have hg := hCY.rng
  have e72 : Y 929 709 = M 929 709 := by rw [e9]
  intro n
  induction n with
  | zero =>
    intro i hi c ii hii hc
    have e : (M 929 709).toNat = i := by omega
    rw [e, ← hc] at h
    refine e_iload 7 dX4_candidates_5 rfl rfl ?_
    refine e_aload_n (i := 1) 8 dX4_candidates_7 rfl rfl rfl ?_
    refine e_geti (j := 10) 11 fl_4_96 dX4_candidates_8 at_1 (by decide) rfl rfl (fun r8 => ?_)
    refine e_icmp_ge 14 33 dX4_candidates_11 (by omega) (by omega) (by decide) rfl (fun b11 => ?_) (fun b11 => ?_)
    · skip
      refine e_iload_n (i := 3) 34 dX4_candidates_33 rfl rfl rfl ?_
      refine e_iret dX4_candidates_34 ?_
      exact h
    · omega
  | succ n ih =>
    intro i hi c ii hii hc
    subst hii
    refine e_iload 7 dX4_candidates_5 rfl rfl ?_
    refine e_aload_n (i := 1) 8 dX4_candidates_7 rfl rfl rfl ?_
    refine e_geti (j := 10) 11 fl_4_96 dX4_candidates_8 at_1 (by decide) rfl rfl (fun r8 => ?_)
    refine e_icmp_ge 14 33 dX4_candidates_11 (by omega) (by omega) (by decide) rfl (fun b11 => ?_) (fun b11 => ?_)
    · omega
    · skip
      refine e_aload_n (i := 1) 15 dX4_candidates_14 rfl rfl rfl ?_
      refine e_iload_n (i := 2) 16 dX4_candidates_15 rfl rfl rfl ?_
      refine e_iload 18 dX4_candidates_16 rfl rfl ?_
      refine e_callS 21 mt_yX4_mayBe ms_yX4_mayBe wd_1189 (by decide) dX4_candidates_18 rfl rfl (Nat.le_of_ble_eq_true rfl) (jroom (by decide)) rfl (c_mayBe hC hS (by omega) (by omega) (fun w18 => ?_) (fun w18 => ?_))
      · dsimp only [jpush]
        refine e_if_eq 24 27 dX4_candidates_21 (by decide) (by decide) rfl (fun h => absurd h (by decide)) (fun _ => ?_)
        refine e_iinc (lsn := [(3, _), (0, _), (1, _), (2, _), (4, _)]) 27 dX4_candidates_24 rfl (by decide) rfl rfl ?_
        refine e_iinc (lsn := [(4, _), (3, _), (0, _), (1, _), (2, _)]) 30 dX4_candidates_27 rfl (by decide) rfl rfl ?_
        refine e_goto 5 dX4_candidates_30 (by decide) ?_
        refine e_ls (ls2 := [(0, _), (1, _), (2, _), (3, _), (4, _)]) rfl ?_
        exact ih (i + 1) (by omega) _ _ (by omega) (by rw [cP_yes w18, hc]; omega)
      · dsimp only [jpush]
        refine e_if_eq 24 27 dX4_candidates_21 (by decide) (by decide) rfl (fun _ => ?_) (fun h => absurd h (by decide))
        refine e_iinc (lsn := [(4, _), (0, _), (1, _), (2, _), (3, _)]) 30 dX4_candidates_27 rfl (by decide) rfl rfl ?_
        refine e_goto 5 dX4_candidates_30 (by decide) ?_
        refine e_ls (ls2 := [(0, _), (1, _), (2, _), (3, _), (4, _)]) rfl ?_
        exact ih (i + 1) (by omega) _ _ (by omega) (by rw [cP_no w18]; exact hc)

theorem c_cand {t : Int} {M Y : jM} {Q : Int → jM → Prop} (hC : CR M) (hS : Scr M Y) (ht : 0 ≤ t ∧ t < M 929 3895) (h : Q (cP (rMbP (M 929) t) (M 929 709).toNat : Nat) Y) : jCt yX4_candidates cX4_candidates 5 (some .int) 2 [jR 903, jR 1, jI t] Y Q := by
  refine jCt_of mt_yX4_candidates (Nat.le_of_ble_eq_true rfl) (fun X => ?_)
  have hg := hC.rng
  refine e_iconst 1 dX4_candidates_0 rfl ?_
  refine e_istore_n (i := 3) (lsn := [(3, _), (0, _), (1, _), (2, _)]) 2 dX4_candidates_1 rfl (by decide) rfl rfl ?_
  refine e_iconst 3 dX4_candidates_2 rfl ?_
  refine e_istore (lsn := [(4, _), (3, _), (0, _), (1, _), (2, _)]) 5 dX4_candidates_3 (by decide) rfl rfl ?_
  refine e_ls (ls2 := [(0, _), (1, _), (2, _), (3, _), (4, _)]) rfl ?_
  exact l_cand hC hS ht h (M 929 709).toNat 0 (by omega) _ _ rfl rfl

theorem l_later {X : jX} {t s : Int} {M Y : jM} {Q : Int → jM → Prop} (hC : CR M) (hS : Scr M Y) (ht : 0 ≤ t ∧ t < M 929 3895) (hs : 0 ≤ s ∧ s ≤ t) (hm : ∀ u, 0 ≤ u → u ≤ t → ((u = t ∨ gM (M 929) u ≠ -1) ∧ Y 926 u = 1) ∨ (¬ (u = t ∨ gM (M 929) u ≠ -1) ∧ Y 926 u = 0)) (h : Q (cP (rLater (M 929) t s) (t + 1).toNat : Nat) Y) : ∀ n i : Nat, (i : Int) + n = t + 1 → ∀ c ii : Int, ii = i → c = (cP (rLater (M 929) t s) i : Nat) → jE X yX4_laterThings cX4_laterThings 8 (some .int) 1 Q Y 14 [(0, jR 903), (1, jR 1), (2, jI s), (3, jI t), (4, jR (44 + s)), (5, jI c), (6, jI ii)] [] := by
  have hCY := hS.cr hC
  have e9 := hS.row
  have hn := hCY.cnt
  have hg := hCY.rng
  have e71 : Y 929 3895 = M 929 3895 := by rw [e9]
  have hls := hCY.ls (i := s) (by omega) (by omega)
  have s0 : Y (44 + s) 0 = M 929 (3896 + s) := by rw [hls.1, e9]
  have s1 : Y (44 + s) 1 = M 929 (3908 + s) := by rw [hls.2, e9]
  intro n
  induction n with
  | zero =>
    intro i hi c ii hii hc
    have e : (t + 1).toNat = i := by omega
    rw [e, ← hc] at h
    refine e_iload 16 dX4_laterThings_14 rfl rfl ?_
    refine e_iload_n (i := 3) 17 dX4_laterThings_16 rfl rfl rfl ?_
    refine e_icmp_gt 20 70 dX4_laterThings_17 (by omega) (by omega) (by decide) rfl (fun b17 => ?_) (fun b17 => ?_)
    · skip
      refine e_iload 72 dX4_laterThings_70 rfl rfl ?_
      refine e_iret dX4_laterThings_72 ?_
      exact h
    · omega
  | succ n ih =>
    intro i hi c ii hii hc
    subst hii
    have hmi := hm i (by omega) (by omega)
    have hli := hCY.ls (i := (i : Int)) (by omega) (by omega)
    have i0 : Y (44 + (i : Int)) 0 = M 929 (3896 + (i : Int)) := by rw [hli.1, e9]
    have i1 : Y (44 + (i : Int)) 1 = M 929 (3908 + (i : Int)) := by rw [hli.2, e9]
    refine e_iload 16 dX4_laterThings_14 rfl rfl ?_
    refine e_iload_n (i := 3) 17 dX4_laterThings_16 rfl rfl rfl ?_
    refine e_icmp_gt 20 70 dX4_laterThings_17 (by omega) (by omega) (by decide) rfl (fun b17 => ?_) (fun b17 => ?_)
    · omega
    · skip
      refine e_aload_n (i := 1) 21 dX4_laterThings_20 rfl rfl rfl ?_
      refine e_getr (j := 18) 24 fl_4_189 dX4_laterThings_21 at_1 rfl rfl tp_1_18 rfl ?_
      refine e_iload 26 dX4_laterThings_24 rfl rfl ?_
      refine e_aaldi 27 dX4_laterThings_26 ar_43 (by omega) (by omega) (tp_listrow (by omega) (by omega)) rfl ?_
      refine e_astore (lsn := [(7, _), (0, _), (1, _), (2, _), (3, _), (4, _), (5, _), (6, _)]) 29 dX4_laterThings_27 (by decide) rfl rfl ?_
      refine e_aload_n (i := 0) 30 dX4_laterThings_29 rfl rfl rfl ?_
      refine e_getr (j := 12) 33 fl_4_48 dX4_laterThings_30 at_903 rfl rfl tp_903_12 rfl ?_
      refine e_iload 35 dX4_laterThings_33 rfl rfl ?_
      refine e_zald 36 dX4_laterThings_35 ar_926 (by omega) (by omega) rfl (fun r35 => ?_)
      refine e_if_eq 39 64 dX4_laterThings_36 (by omega) (by decide) rfl (fun b36 => ?_) (fun b36 => ?_)
      · skip
        refine e_iinc (lsn := [(6, _), (7, _), (0, _), (1, _), (2, _), (3, _), (4, _), (5, _)]) 67 dX4_laterThings_64 rfl (by decide) rfl rfl ?_
        refine e_goto 14 dX4_laterThings_67 (by decide) ?_
        refine e_ls (ls2 := [(0, _), (1, _), (2, _), (3, _), (4, _), (5, _), (6, _)]) rfl ?_
        exact ih (i + 1) (by omega) _ _ (by omega) (by rw [cP_no (P := rLater (M 929) t s) (fun q => by have q1 := q.1; have q2 : M 929 (3896 + (i : Int)) = M 929 (3896 + s) := q.2.1; have q3 : M 929 (3908 + s) ≤ M 929 (3908 + (i : Int)) := q.2.2; omega)]; exact hc)
      · skip
        refine e_aload 41 dX4_laterThings_39 rfl rfl ?_
        refine e_iconst 42 dX4_laterThings_41 rfl ?_
        refine e_iald 43 dX4_laterThings_42 (ar_listrow (by omega) (by omega)) (by decide) (by decide) rfl (fun r42 => ?_)
        refine e_aload 45 dX4_laterThings_43 rfl rfl ?_
        refine e_iconst 46 dX4_laterThings_45 rfl ?_
        refine e_iald 47 dX4_laterThings_46 (ar_listrow (by omega) (by omega)) (by decide) (by decide) rfl (fun r46 => ?_)
        refine e_icmp_ne 50 64 dX4_laterThings_47 (by omega) (by omega) (by decide) rfl (fun b47 => ?_) (fun b47 => ?_)
        · skip
          refine e_iinc (lsn := [(6, _), (7, _), (0, _), (1, _), (2, _), (3, _), (4, _), (5, _)]) 67 dX4_laterThings_64 rfl (by decide) rfl rfl ?_
          refine e_goto 14 dX4_laterThings_67 (by decide) ?_
          refine e_ls (ls2 := [(0, _), (1, _), (2, _), (3, _), (4, _), (5, _), (6, _)]) rfl ?_
          exact ih (i + 1) (by omega) _ _ (by omega) (by rw [cP_no (P := rLater (M 929) t s) (fun q => by have q1 := q.1; have q2 : M 929 (3896 + (i : Int)) = M 929 (3896 + s) := q.2.1; have q3 : M 929 (3908 + s) ≤ M 929 (3908 + (i : Int)) := q.2.2; omega)]; exact hc)
        · skip
          refine e_aload 52 dX4_laterThings_50 rfl rfl ?_
          refine e_iconst 53 dX4_laterThings_52 rfl ?_
          refine e_iald 54 dX4_laterThings_53 (ar_listrow (by omega) (by omega)) (by decide) (by decide) rfl (fun r53 => ?_)
          refine e_aload 56 dX4_laterThings_54 rfl rfl ?_
          refine e_iconst 57 dX4_laterThings_56 rfl ?_
          refine e_iald 58 dX4_laterThings_57 (ar_listrow (by omega) (by omega)) (by decide) (by decide) rfl (fun r57 => ?_)
          refine e_icmp_lt 61 64 dX4_laterThings_58 (by omega) (by omega) (by decide) rfl (fun b58 => ?_) (fun b58 => ?_)
          · skip
            refine e_iinc (lsn := [(6, _), (7, _), (0, _), (1, _), (2, _), (3, _), (4, _), (5, _)]) 67 dX4_laterThings_64 rfl (by decide) rfl rfl ?_
            refine e_goto 14 dX4_laterThings_67 (by decide) ?_
            refine e_ls (ls2 := [(0, _), (1, _), (2, _), (3, _), (4, _), (5, _), (6, _)]) rfl ?_
            exact ih (i + 1) (by omega) _ _ (by omega) (by rw [cP_no (P := rLater (M 929) t s) (fun q => by have q1 := q.1; have q2 : M 929 (3896 + (i : Int)) = M 929 (3896 + s) := q.2.1; have q3 : M 929 (3908 + s) ≤ M 929 (3908 + (i : Int)) := q.2.2; omega)]; exact hc)
          · skip
            refine e_iinc (lsn := [(5, _), (7, _), (0, _), (1, _), (2, _), (3, _), (4, _), (6, _)]) 64 dX4_laterThings_61 rfl (by decide) rfl rfl ?_
            refine e_iinc (lsn := [(6, _), (5, _), (7, _), (0, _), (1, _), (2, _), (3, _), (4, _)]) 67 dX4_laterThings_64 rfl (by decide) rfl rfl ?_
            refine e_goto 14 dX4_laterThings_67 (by decide) ?_
            refine e_ls (ls2 := [(0, _), (1, _), (2, _), (3, _), (4, _), (5, _), (6, _)]) rfl ?_
            exact ih (i + 1) (by omega) _ _ (by omega) (by rw [cP_yes (P := rLater (M 929) t s) ⟨by omega, by show M 929 (3896 + (i : Int)) = M 929 (3896 + s); omega, by show M 929 (3908 + s) ≤ M 929 (3908 + (i : Int)); omega⟩, hc]; omega)

theorem c_later {t s : Int} {M Y : jM} {Q : Int → jM → Prop} (hC : CR M) (hS : Scr M Y) (ht : 0 ≤ t ∧ t < M 929 3895) (hs : 0 ≤ s ∧ s ≤ t) (hm : ∀ u, 0 ≤ u → u ≤ t → ((u = t ∨ gM (M 929) u ≠ -1) ∧ Y 926 u = 1) ∨ (¬ (u = t ∨ gM (M 929) u ≠ -1) ∧ Y 926 u = 0)) (h : Q (cP (rLater (M 929) t s) (t + 1).toNat : Nat) Y) : jCt yX4_laterThings cX4_laterThings 8 (some .int) 1 [jR 903, jR 1, jI s, jI t] Y Q := by
  refine jCt_of mt_yX4_laterThings (Nat.le_of_ble_eq_true rfl) (fun X => ?_)
  have hg := hC.rng
  refine e_aload_n (i := 1) 1 dX4_laterThings_0 rfl rfl rfl ?_
  refine e_getr (j := 18) 4 fl_4_189 dX4_laterThings_1 at_1 rfl rfl tp_1_18 rfl ?_
  refine e_iload_n (i := 2) 5 dX4_laterThings_4 rfl rfl rfl ?_
  refine e_aaldi 6 dX4_laterThings_5 ar_43 (by omega) (by omega) (tp_listrow (by omega) (by omega)) rfl ?_
  refine e_astore (lsn := [(4, _), (0, _), (1, _), (2, _), (3, _)]) 8 dX4_laterThings_6 (by decide) rfl rfl ?_
  refine e_iconst 9 dX4_laterThings_8 rfl ?_
  refine e_istore (lsn := [(5, _), (4, _), (0, _), (1, _), (2, _), (3, _)]) 11 dX4_laterThings_9 (by decide) rfl rfl ?_
  refine e_iconst 12 dX4_laterThings_11 rfl ?_
  refine e_istore (lsn := [(6, _), (5, _), (4, _), (0, _), (1, _), (2, _), (3, _)]) 14 dX4_laterThings_12 (by decide) rfl rfl ?_
  refine e_ls (ls2 := [(0, _), (1, _), (2, _), (3, _), (4, _), (5, _), (6, _)]) rfl ?_
  exact l_later hC hS ht hs hm h (t + 1).toNat 0 (by omega) _ _ rfl rfl

theorem l_room {X : jX} {t : Int} {M Y : jM} {Q : Int → jM → Prop} (hC : CR M) (hS : Scr M Y) (ht : 0 ≤ t ∧ t < M 929 3895) (hm : ∀ u, 0 ≤ u → u ≤ t → ((u = t ∨ gM (M 929) u ≠ -1) ∧ Y 926 u = 1) ∨ (¬ (u = t ∨ gM (M 929) u ≠ -1) ∧ Y 926 u = 0)) (h1 : gM (M 929) t ≠ -1 → Q 1 Y) (h0 : gM (M 929) t = -1 → Q 0 Y) : ∀ (n : Nat) (ii : Int), 0 ≤ ii → ii + n = t + 1 → (∀ s, 0 ≤ s → s < ii → (s = t ∨ gM (M 929) s ≠ -1) → (cP (rLater (M 929) t s) (t + 1).toNat : Int) ≤ (cP (rMbP (M 929) s) (M 929 709).toNat : Nat)) → jE X yX4_isRoomTo cX4_isRoomTo 4 (some .boolean) 3 Q Y 2 [(0, jR 903), (1, jR 1), (2, jI t), (3, jI ii)] [] := by
  have hg := hC.rng
  have hmb := mb_ok hC.1
  have hgr := gM_ok (a := M 929)
  have hroom : gM (M 929) t ≠ -1 → ∀ s, 0 ≤ s → s ≤ t → (cP (rLater (M 929) t s) (t + 1).toNat : Int) ≤ (cP (rMbP (M 929) s) (M 929 709).toNat : Nat) := fun hx s a b => by
    have q := gr_room hmb hgr (t := t.toNat) (by omega) (by rw [show ((t.toNat : Nat) : Int) = t by omega]; exact hx) (s := s) (by omega)
    rw [show ((t.toNat : Nat) : Int) = t by omega, show t.toNat + 1 = (t + 1).toNat by omega] at q
    exact Int.ofNat_le.mpr q
  have hfull : (∀ s, 0 ≤ s → s ≤ t → (s = t ∨ gM (M 929) s ≠ -1) → (cP (rLater (M 929) t s) (t + 1).toNat : Int) ≤ (cP (rMbP (M 929) s) (M 929 709).toNat : Nat)) → gM (M 929) t ≠ -1 := fun hx z => by
    obtain ⟨s, a, b, c, d⟩ := gr_full hmb hgr (t := t.toNat) (by omega) (by rw [show ((t.toNat : Nat) : Int) = t by omega]; exact z)
    rw [show ((t.toNat : Nat) : Int) = t by omega, show t.toNat + 1 = (t + 1).toNat by omega] at d
    have q := hx s a (by omega) (by rcases c with c | c <;> omega)
    have d2 := Int.ofNat_lt.mpr d
    have q2 : ((cP (rLater (M 929) t s) (t + 1).toNat : Nat) : Int) ≤ ((cP (rMbP (M 929) s) (M 929 709).toNat : Nat) : Int) := q
    exact absurd q2 (Int.not_le.mpr d2)
  intro n
  induction n with
  | zero =>
    intro ii a0 hi hh
    refine e_iload_n (i := 3) 3 dX4_isRoomTo_2 rfl rfl rfl ?_
    refine e_iload_n (i := 2) 4 dX4_isRoomTo_3 rfl rfl rfl ?_
    refine e_icmp_gt 7 40 dX4_isRoomTo_4 (by omega) (by omega) (by decide) rfl (fun b4 => ?_) (fun b4 => ?_)
    · skip
      refine e_iconst 41 dX4_isRoomTo_40 rfl ?_
      refine e_zret dX4_isRoomTo_41 (by decide) ?_
      exact h1 (hfull (fun s a b c => hh s a (by omega) c))
    · omega
  | succ n ih =>
    intro ii a0 hi hh
    have hmi := hm ii a0 (by omega)
    have hct1 := cP_top (rLater (M 929) t ii) (t + 1).toNat
    have hct2 := cP_top (rMbP (M 929) ii) (M 929 709).toNat
    refine e_iload_n (i := 3) 3 dX4_isRoomTo_2 rfl rfl rfl ?_
    refine e_iload_n (i := 2) 4 dX4_isRoomTo_3 rfl rfl rfl ?_
    refine e_icmp_gt 7 40 dX4_isRoomTo_4 (by omega) (by omega) (by decide) rfl (fun b4 => ?_) (fun b4 => ?_)
    · omega
    · skip
      refine e_aload_n (i := 0) 8 dX4_isRoomTo_7 rfl rfl rfl ?_
      refine e_getr (j := 12) 11 fl_4_48 dX4_isRoomTo_8 at_903 rfl rfl tp_903_12 rfl ?_
      refine e_iload_n (i := 3) 12 dX4_isRoomTo_11 rfl rfl rfl ?_
      refine e_zald 13 dX4_isRoomTo_12 ar_926 (by omega) (by omega) rfl (fun r12 => ?_)
      refine e_if_eq 16 34 dX4_isRoomTo_13 (by omega) (by decide) rfl (fun b13 => ?_) (fun b13 => ?_)
      · skip
        refine e_iinc (lsn := [(3, _), (0, _), (1, _), (2, _)]) 37 dX4_isRoomTo_34 rfl (by decide) rfl rfl ?_
        refine e_goto 2 dX4_isRoomTo_37 (by decide) ?_
        refine e_ls (ls2 := [(0, _), (1, _), (2, _), (3, _)]) rfl ?_
        refine ih (ii + 1) (by omega) (by omega) (fun s a b c => ?_)
        by_cases e : s = ii
        · subst e
          exfalso
          omega
        · exact hh s a (by omega) c
      · skip
        refine e_aload_n (i := 0) 17 dX4_isRoomTo_16 rfl rfl rfl ?_
        refine e_aload_n (i := 1) 18 dX4_isRoomTo_17 rfl rfl rfl ?_
        refine e_iload_n (i := 3) 19 dX4_isRoomTo_18 rfl rfl rfl ?_
        refine e_iload_n (i := 2) 20 dX4_isRoomTo_19 rfl rfl rfl ?_
        refine e_callV 23 mt_yX4_laterThings mv_yX4_laterThings wd_1181 (by decide) dX4_isRoomTo_20 at_903 jc_4 rfl rfl rfl (Nat.le_of_ble_eq_true rfl) (jroom (by decide)) rfl (c_later hC hS ht (by omega) hm ?_)
        dsimp only [jpush]
        refine e_aload_n (i := 0) 24 dX4_isRoomTo_23 rfl rfl rfl ?_
        refine e_aload_n (i := 1) 25 dX4_isRoomTo_24 rfl rfl rfl ?_
        refine e_iload_n (i := 3) 26 dX4_isRoomTo_25 rfl rfl rfl ?_
        refine e_callV 29 mt_yX4_candidates mv_yX4_candidates wd_1185 (by decide) dX4_isRoomTo_26 at_903 jc_4 rfl rfl rfl (Nat.le_of_ble_eq_true rfl) (jroom (by decide)) rfl (c_cand hC hS (by omega) ?_)
        dsimp only [jpush]
        refine e_icmp_le 32 34 dX4_isRoomTo_29 (by omega) (by omega) (by decide) rfl (fun b29 => ?_) (fun b29 => ?_)
        · skip
          refine e_iinc (lsn := [(3, _), (0, _), (1, _), (2, _)]) 37 dX4_isRoomTo_34 rfl (by decide) rfl rfl ?_
          refine e_goto 2 dX4_isRoomTo_37 (by decide) ?_
          refine e_ls (ls2 := [(0, _), (1, _), (2, _), (3, _)]) rfl ?_
          refine ih (ii + 1) (by omega) (by omega) (fun s a b c => ?_)
          by_cases e : s = ii
          · subst e
            omega
          · exact hh s a (by omega) c
        · skip
          refine e_iconst 33 dX4_isRoomTo_32 rfl ?_
          refine e_zret dX4_isRoomTo_33 (by decide) ?_
          refine h0 (Classical.byContradiction (fun q => ?_))
          have z := hroom q ii a0 (by omega)
          omega

theorem c_room {t : Int} {M Y : jM} {Q : Int → jM → Prop} (hC : CR M) (hS : Scr M Y) (ht : 0 ≤ t ∧ t < M 929 3895) (hm : ∀ u, 0 ≤ u → u ≤ t → ((u = t ∨ gM (M 929) u ≠ -1) ∧ Y 926 u = 1) ∨ (¬ (u = t ∨ gM (M 929) u ≠ -1) ∧ Y 926 u = 0)) (h1 : gM (M 929) t ≠ -1 → Q 1 Y) (h0 : gM (M 929) t = -1 → Q 0 Y) : jCt yX4_isRoomTo cX4_isRoomTo 4 (some .boolean) 3 [jR 903, jR 1, jI t] Y Q := by
  refine jCt_of mt_yX4_isRoomTo (Nat.le_of_ble_eq_true rfl) (fun X => ?_)
  refine e_iconst 1 dX4_isRoomTo_0 rfl ?_
  refine e_istore_n (i := 3) (lsn := [(3, _), (0, _), (1, _), (2, _)]) 2 dX4_isRoomTo_1 rfl (by decide) rfl rfl ?_
  refine e_ls (ls2 := [(0, _), (1, _), (2, _), (3, _)]) rfl ?_
  exact l_room hC hS ht hm h1 h0 (t + 1).toNat 0 (by omega) (by omega) (fun s a b c => by omega)

theorem l_take9 {X : jX} {t : Int} {M Y : jM} {Q : Int → jM → Prop} (hC : CR M) (hS : Scr M Y) (ht : 0 ≤ t ∧ t < M 929 3895) (hk : ∀ p, 0 ≤ p → p < M 929 709 → ((∃ s, 0 ≤ s ∧ s < t ∧ gM (M 929) s = p) ∧ Y 927 p = 1) ∨ ((¬ ∃ s, 0 ≤ s ∧ s < t ∧ gM (M 929) s = p) ∧ Y 927 p = 0)) (hx : gM (M 929) t ≠ -1) (h : Q 0 (jset (jset Y 927 (gM (M 929) t) 1) 925 t (gM (M 929) t))) : ∀ (n : Nat) (ii : Int), 0 ≤ ii → ii + n = M 929 709 → ii ≤ gM (M 929) t → jE X yX4_takeLeast cX4_takeLeast 4 none 2 Q Y 2 [(0, jR 903), (1, jR 1), (2, jI t), (3, jI ii)] [] := by
  have hCY := hS.cr hC
  have e9 := hS.row
  have hn := hCY.cnt
  have hg := hCY.rng
  have e72 : Y 929 709 = M 929 709 := by rw [e9]
  have e71 : Y 929 3895 = M 929 3895 := by rw [e9]
  have hgt := (gM_ok (a := M 929) t (by omega) (by omega)).1 hx
  intro n
  induction n with
  | zero =>
    intro ii a0 hi hle
    refine e_iload_n (i := 3) 3 dX4_takeLeast_2 rfl rfl rfl ?_
    refine e_aload_n (i := 1) 4 dX4_takeLeast_3 rfl rfl rfl ?_
    refine e_geti (j := 10) 7 fl_4_96 dX4_takeLeast_4 at_1 (by decide) rfl rfl (fun r4 => ?_)
    refine e_icmp_ge 10 49 dX4_takeLeast_7 (by omega) (by omega) (by decide) rfl (fun b7 => ?_) (fun b7 => ?_)
    · skip
      refine e_vret dX4_takeLeast_49 ?_
      exfalso
      omega
    · omega
  | succ n ih =>
    intro ii a0 hi hle
    have hki := hk ii a0 (by omega)
    have hfree : ii = gM (M 929) t → Y 927 ii = 0 := fun q => by
      rcases hki with ⟨⟨s, s0, s1, s2⟩, -⟩ | z
      · exact absurd (s2.trans q) (hgt.2.2.1 s s0 s1)
      · exact z.2
    have hthis : Y 927 ii = 0 → rMbP (M 929) t ii → ii = gM (M 929) t := fun q1 q2 => by
      by_cases e : ii < gM (M 929) t
      · obtain z := hgt.2.2.2 ii a0 e q2
        rcases hki with w | w
        · omega
        · exact absurd z w.1
      · omega
    refine e_iload_n (i := 3) 3 dX4_takeLeast_2 rfl rfl rfl ?_
    refine e_aload_n (i := 1) 4 dX4_takeLeast_3 rfl rfl rfl ?_
    refine e_geti (j := 10) 7 fl_4_96 dX4_takeLeast_4 at_1 (by decide) rfl rfl (fun r4 => ?_)
    refine e_icmp_ge 10 49 dX4_takeLeast_7 (by omega) (by omega) (by decide) rfl (fun b7 => ?_) (fun b7 => ?_)
    · omega
    · skip
      refine e_aload_n (i := 0) 11 dX4_takeLeast_10 rfl rfl rfl ?_
      refine e_getr (j := 13) 14 fl_4_52 dX4_takeLeast_11 at_903 rfl rfl tp_903_13 rfl ?_
      refine e_iload_n (i := 3) 15 dX4_takeLeast_14 rfl rfl rfl ?_
      refine e_zald 16 dX4_takeLeast_15 ar_927 (by omega) (by omega) rfl (fun r15 => ?_)
      refine e_if_ne 19 43 dX4_takeLeast_16 (by omega) (by decide) rfl (fun b16 => ?_) (fun b16 => ?_)
      · skip
        refine e_iinc (lsn := [(3, _), (0, _), (1, _), (2, _)]) 46 dX4_takeLeast_43 rfl (by decide) rfl rfl ?_
        refine e_goto 2 dX4_takeLeast_46 (by decide) ?_
        refine e_ls (ls2 := [(0, _), (1, _), (2, _), (3, _)]) rfl ?_
        refine ih (ii + 1) (by omega) (by omega) ?_
        by_cases e : ii = gM (M 929) t
        · exfalso
          have z := hfree e
          omega
        · omega
      · skip
        refine e_aload_n (i := 1) 20 dX4_takeLeast_19 rfl rfl rfl ?_
        refine e_iload_n (i := 2) 21 dX4_takeLeast_20 rfl rfl rfl ?_
        refine e_iload_n (i := 3) 22 dX4_takeLeast_21 rfl rfl rfl ?_
        refine e_callS 25 mt_yX4_mayBe ms_yX4_mayBe wd_1189 (by decide) dX4_takeLeast_22 rfl rfl (Nat.le_of_ble_eq_true rfl) (jroom (by decide)) rfl (c_mayBe hC hS (by omega) (by omega) (fun w22 => ?_) (fun w22 => ?_))
        · dsimp only [jpush]
          refine e_if_eq 28 43 dX4_takeLeast_25 (by decide) (by decide) rfl (fun h => absurd h (by decide)) (fun _ => ?_)
          refine e_aload_n (i := 0) 29 dX4_takeLeast_28 rfl rfl rfl ?_
          refine e_getr (j := 13) 32 fl_4_52 dX4_takeLeast_29 at_903 rfl rfl tp_903_13 rfl ?_
          refine e_iload_n (i := 3) 33 dX4_takeLeast_32 rfl rfl rfl ?_
          refine e_iconst 34 dX4_takeLeast_33 rfl ?_
          refine e_zast 35 dX4_takeLeast_34 ar_927 (by omega) (by omega) (by decide) rfl ?_
          refine e_aload_n (i := 0) 36 dX4_takeLeast_35 rfl rfl rfl ?_
          refine e_getr (j := 11) 39 fl_4_45 dX4_takeLeast_36 at_903 rfl rfl tp_903_11 rfl ?_
          refine e_iload_n (i := 2) 40 dX4_takeLeast_39 rfl rfl rfl ?_
          refine e_iload_n (i := 3) 41 dX4_takeLeast_40 rfl rfl rfl ?_
          refine e_iast 42 dX4_takeLeast_41 ar_925 (by omega) (by omega) (by omega) rfl ?_
          refine e_vret dX4_takeLeast_42 ?_
          have e := hthis (by omega) w22
          rw [e]
          exact h
        · dsimp only [jpush]
          refine e_if_eq 28 43 dX4_takeLeast_25 (by decide) (by decide) rfl (fun _ => ?_) (fun h => absurd h (by decide))
          refine e_iinc (lsn := [(3, _), (0, _), (1, _), (2, _)]) 46 dX4_takeLeast_43 rfl (by decide) rfl rfl ?_
          refine e_goto 2 dX4_takeLeast_46 (by decide) ?_
          refine e_ls (ls2 := [(0, _), (1, _), (2, _), (3, _)]) rfl ?_
          refine ih (ii + 1) (by omega) (by omega) ?_
          by_cases e : ii = gM (M 929) t
          · exfalso
            have z := hfree e
            rw [e] at w22
            exact w22 hgt.2.1
          · omega

theorem c_take9 {t : Int} {M Y : jM} {Q : Int → jM → Prop} (hC : CR M) (hS : Scr M Y) (ht : 0 ≤ t ∧ t < M 929 3895) (hk : ∀ p, 0 ≤ p → p < M 929 709 → ((∃ s, 0 ≤ s ∧ s < t ∧ gM (M 929) s = p) ∧ Y 927 p = 1) ∨ ((¬ ∃ s, 0 ≤ s ∧ s < t ∧ gM (M 929) s = p) ∧ Y 927 p = 0)) (hx : gM (M 929) t ≠ -1) (h : Q 0 (jset (jset Y 927 (gM (M 929) t) 1) 925 t (gM (M 929) t))) : jCt yX4_takeLeast cX4_takeLeast 4 none 2 [jR 903, jR 1, jI t] Y Q := by
  refine jCt_of mt_yX4_takeLeast (Nat.le_of_ble_eq_true rfl) (fun X => ?_)
  have hg := hC.rng
  have hgt := (gM_ok (a := M 929) t (by omega) (by omega)).1 hx
  refine e_iconst 1 dX4_takeLeast_0 rfl ?_
  refine e_istore_n (i := 3) (lsn := [(3, _), (0, _), (1, _), (2, _)]) 2 dX4_takeLeast_1 rfl (by decide) rfl rfl ?_
  refine e_ls (ls2 := [(0, _), (1, _), (2, _), (3, _)]) rfl ?_
  exact l_take9 hC hS ht hk hx h (M 929 709).toNat 0 (by omega) (by omega) hgt.1.1

