/-! TEXTS *** the class: what a token is -/
def TR (Z : jM) (t : Int → Int) (s : PS) : Prop := Z 883 3 = s.2.1 ∧ Z 883 5 = s.1 ∧ ((s.2.2.1 = 25 ∧ Z 883 4 = 0) ∨ (s.2.2.1 ≤ 20 ∧ Z 883 4 = 2 ∧ s.2.2.1 = kx0 t s.1 s.2.1) ∨ (s.2.2.1 = 21 ∧ Z 883 4 = 3 ∧ Z 883 6 = s.2.2.2.1) ∨ ((s.2.2.1 = 22 ∧ Z 883 6 = 59 ∨ s.2.2.1 = 23 ∧ Z 883 6 = 40 ∨ s.2.2.1 = 24 ∧ Z 883 6 = 41) ∧ Z 883 4 = 4) ∨ (s.2.2.1 = 26 ∧ Z 883 4 = 1))
def CM (M : jM) (n : Int) : Prop := (0 ≤ n ∧ n ≤ 400) ∧ ∀ i : Int, 0 ≤ i → i < n → (0 ≤ M 931 i ∧ M 931 i ≤ 255) ∧ M 884 i = w8 (M 931 i)
def CTk (M Z : jM) (n : Int) (s : PS) : Prop := (∀ k, (k < 882 ∨ k = 884 ∨ 893 < k) → Z k = M k) ∧ (Z 883 1 = 0 ∧ Z 891 0 = 0) ∧ Z 883 2 = n ∧ TR Z (M 931) s ∧ Z 882 4 = s.2.2.2.2.1 ∧ Z 882 5 = (if s.2.2.2.2.1 = 0 then -1 else s.2.2.2.2.2.1)
def CO (Z W : jM) : Prop := (∀ k, k ≠ 882 → k ≠ 883 → W k = Z k) ∧ W 882 3 = Z 882 3
section
variable {M Z W V : jM} {n : Int} {s : PS}
theorem CO.rf : CO Z Z := ⟨fun _ _ _ => rfl, rfl⟩
theorem CO.trans (h : CO Z W) (g : CO W V) : CO Z V := ⟨fun k a b => (g.1 k a b).trans (h.1 k a b), g.2.trans h.2⟩
theorem CM.rt (h : CM M n) : ∃ Y : jM, RT Y n ∧ Y 931 = M 931 := ⟨jset M 928 8 n, ⟨jset_same, h.1, fun i a b => by
  rw [jset_k (by omega)]
  exact (h.2 i a b).1⟩, row_k (by omega)⟩
theorem CTk.cb (hM : CM M n) (h : CTk M Z n s) : CB Z (M 931) n := ⟨h.2.2.1, hM.1, fun i a b => by
  rw [h.1 884 (by omega)]
  exact hM.2 i a b⟩
theorem ts_next (hM : CM M n) (hI : PI n s) {y : Int × Int} : TR (putT Z (cStep (M 931) n (s.1, s.2.1, y))) (M 931) (pNext (M 931) n s) := by
  refine ⟨rfl, rfl, ?_⟩
  rw [pt_r4, pt_r6]
  show (tKd (M 931) n (tPl (M 931) n s.2.1) = 25 ∧ cSo (M 931) n (tPl (M 931) n s.2.1) = 0) ∨ (tKd (M 931) n (tPl (M 931) n s.2.1) ≤ 20 ∧ cSo (M 931) n (tPl (M 931) n s.2.1) = 2 ∧ tKd (M 931) n (tPl (M 931) n s.2.1) = kx0 (M 931) (tPl (M 931) n s.2.1) (tBe (M 931) n (tPl (M 931) n s.2.1))) ∨ (tKd (M 931) n (tPl (M 931) n s.2.1) = 21 ∧ cSo (M 931) n (tPl (M 931) n s.2.1) = 3 ∧ cVa (M 931) n (tPl (M 931) n s.2.1) = tNu (M 931) n (tPl (M 931) n s.2.1) s.2.2.2.1) ∨ ((tKd (M 931) n (tPl (M 931) n s.2.1) = 22 ∧ cVa (M 931) n (tPl (M 931) n s.2.1) = 59 ∨ tKd (M 931) n (tPl (M 931) n s.2.1) = 23 ∧ cVa (M 931) n (tPl (M 931) n s.2.1) = 40 ∨ tKd (M 931) n (tPl (M 931) n s.2.1) = 24 ∧ cVa (M 931) n (tPl (M 931) n s.2.1) = 41) ∧ cSo (M 931) n (tPl (M 931) n s.2.1) = 4) ∨ (tKd (M 931) n (tPl (M 931) n s.2.1) = 26 ∧ cSo (M 931) n (tPl (M 931) n s.2.1) = 1)
  have hr := tBl_rng (t := M 931) (n - s.2.1).toNat s.2.1
  have hb := hI.1
  have hq0 : s.2.1 ≤ tPl (M 931) n s.2.1 ∧ tPl (M 931) n s.2.1 ≤ n := by
    unfold tPl
    omega
  obtain ⟨q, hq⟩ : ∃ q, q = tPl (M 931) n s.2.1 := ⟨_, rfl⟩
  rw [← hq] at hq0 ⊢
  by_cases c1 : n ≤ q
  · exact Or.inl ⟨if_pos c1, if_pos c1⟩
  · have hby := hM.2 q (by omega) (by omega)
    have hb8 := w8_c hby.1
    by_cases c2 : 97 ≤ M 931 q ∧ M 931 q ≤ 122
    · have e2 : tKd (M 931) n q = kx0 (M 931) q (tBe (M 931) n q) := (if_neg c1).trans (if_pos c2)
      have g := kx0_ge (t := M 931) (p := q) (b := tBe (M 931) n q)
      exact Or.inr (Or.inl ⟨by rw [e2]; exact g.2, (if_neg c1).trans (if_pos c2), e2⟩)
    · by_cases c3 : 48 ≤ M 931 q ∧ M 931 q ≤ 57
      · have e2 : tKd (M 931) n q = if 3 < tBe (M 931) n q - q then 26 else 21 := (if_neg c1).trans ((if_neg c2).trans (if_pos c3))
        have e3 : cSo (M 931) n q = if tBe (M 931) n q - q ≤ 3 then 3 else 1 := (if_neg c1).trans ((if_neg c2).trans (if_pos c3))
        have e4 : cVa (M 931) n q = if tBe (M 931) n q - q ≤ 3 then tNum (M 931) q (tBe (M 931) n q - q) else 0 := (if_neg c1).trans ((if_neg c2).trans (if_pos c3))
        have e5 : tNu (M 931) n q s.2.2.2.1 = tNum (M 931) q (tBe (M 931) n q - q) := (if_neg c1).trans ((if_neg c2).trans (if_pos c3))
        by_cases c4 : tBe (M 931) n q - q ≤ 3
        · refine Or.inr (Or.inr (Or.inl ⟨?_, ?_, ?_⟩))
          · rw [e2, if_neg (by omega)]
          · rw [e3, if_pos c4]
          · rw [e4, if_pos c4, e5]
        · refine Or.inr (Or.inr (Or.inr (Or.inr ⟨?_, ?_⟩)))
          · rw [e2, if_pos (by omega)]
          · rw [e3, if_neg c4]
      · have e4 : cVa (M 931) n q = w8 (M 931 q) := (if_neg c1).trans ((if_neg c2).trans (if_neg c3))
        have eS : cSo (M 931) n q = if M 931 q = 59 ∨ M 931 q = 40 ∨ M 931 q = 41 then 4 else 1 := (if_neg c1).trans ((if_neg c2).trans (if_neg c3))
        have eK : tKd (M 931) n q = if M 931 q = 59 then 22 else if M 931 q = 40 then 23 else if M 931 q = 41 then 24 else 26 := (if_neg c1).trans ((if_neg c2).trans (if_neg c3))
        by_cases s1 : M 931 q = 59
        · rw [if_pos s1] at eK
          rw [if_pos (Or.inl s1)] at eS
          omega
        · rw [if_neg s1] at eK
          by_cases s2 : M 931 q = 40
          · rw [if_pos s2] at eK
            rw [if_pos (Or.inr (Or.inl s2))] at eS
            omega
          · rw [if_neg s2] at eK
            by_cases s3 : M 931 q = 41
            · rw [if_pos s3] at eK
              rw [if_pos (Or.inr (Or.inr s3))] at eS
              omega
            · rw [if_neg s3] at eK
              rw [if_neg (by omega)] at eS
              omega
end
theorem c_step {M Z : jM} {n : Int} {Q : Int → jM → Prop} (hM : CM M n) {s : PS} (hZ : CTk M Z n s) (hI : PI n s) (h : ∀ W : jM, CTk M W n (pNext (M 931) n s) → CO Z W → Q 0 W) (hw : s.2.2.2.2.1 = 0) : jCt yX9_step cX9_step 1 none 1 [jR 883] Z Q := by
  have e3 := hZ.2.2.2.1.1
  have e5 := hZ.2.2.2.1.2.1
  have hb := hI.1
  have e : putT Z (s.1, s.2.1, Z 883 4, Z 883 6) = Z := by
    rw [← e3, ← e5]
    exact pt_self
  rw [← e]
  refine c_step0 (t := M 931) (hZ.cb hM) (s := (s.1, s.2.1, Z 883 4, Z 883 6)) (show 0 ≤ s.2.1 ∧ s.2.1 ≤ n by omega) (h _ ⟨fun k hk => ?_, ⟨hZ.2.1.1, (congrFun (pt_o (by omega)) 0).trans hZ.2.1.2⟩, hZ.2.2.1, ts_next hM hI, ?_, ?_⟩ ⟨fun k a b => pt_o b, ?_⟩)
  · rw [pt_o (by omega), hZ.1 k hk]
  · rw [pt_o (by omega)]
    exact hZ.2.2.2.2.1
  · rw [pt_o (by omega)]
    exact hZ.2.2.2.2.2
  · rw [pt_o (by omega)]
theorem c_spells_0 {M Z : jM} {n : Int} {Q : Int → jM → Prop} (hM : CM M n) {s : PS} (hZ : CTk M Z n s) (hI : PI n s) (h1 : s.2.2.1 = 0 → Q 1 Z) (h0 : s.2.2.1 ≠ 0 → Q 0 Z) : jCt yX9_spells cX9_spells 3 (some .boolean) 5 [jR 883, jF 6] Z Q := by
  refine jCt_of mt_yX9_spells (Nat.le_of_ble_eq_true rfl) (fun X => ?_)
  have e3 := hZ.2.2.2.1.1
  have e5 := hZ.2.2.2.1.2.1
  have eT := hZ.2.2.2.1.2.2
  have hi1 := hI.1
  have hi2 := hI.2.1
  have hn0 := hM.1
  have e84 : Z 884 = M 884 := hZ.1 884 (by omega)
  refine e_aload_n (i := 0) 1 dX9_spells_0 rfl rfl rfl ?_
  refine e_geti (j := 4) 4 fl_9_40 dX9_spells_1 at_883 (by decide) rfl rfl (fun r1 => ?_)
  refine e_iconst 5 dX9_spells_4 rfl ?_
  refine e_icmp_ne 8 24 dX9_spells_5 (by omega) (by decide) (by decide) rfl (fun b5 => ?_) (fun b5 => ?_)
  · skip
    refine e_iconst 25 dX9_spells_24 rfl ?_
    refine e_zret dX9_spells_25 (by decide) ?_
    first
      | (exfalso; omega)
      | (exact h0 (fun q => by
           have hk := kw_0.mp (show kx0 (M 931) s.1 s.2.1 = 0 by omega)
           omega))
  · skip
    refine e_aload_n (i := 0) 9 dX9_spells_8 rfl rfl rfl ?_
    refine e_geti (j := 3) 12 fl_9_28 dX9_spells_9 at_883 (by decide) rfl rfl (fun r9 => ?_)
    refine e_aload_n (i := 0) 13 dX9_spells_12 rfl rfl rfl ?_
    refine e_geti (j := 5) 16 fl_9_34 dX9_spells_13 at_883 (by decide) rfl rfl (fun r13 => ?_)
    refine e_isub 17 dX9_spells_16 rfl ?_
    refine e_aloadF_n (i := 1) 18 dX9_spells_17 rfl rfl rfl ?_
    refine e_callF (av := []) 21 (i := 0) (by decide) mt_yJ_len mv_yJ_len wd_559 (by decide) dX9_spells_18 rfl rfl rfl (Nat.le_of_ble_eq_true rfl) (jroom (by decide)) rfl (c_strlen (i := 0) (z := 4) (by decide) (by decide) ?_)
    dsimp only [jpush]
    refine e_icmp_eq 24 26 dX9_spells_21 (by omega) (by decide) (by decide) rfl (fun b21 => ?_) (fun b21 => ?_)
    · skip
      have y0 := hM.2 (s.1) (by omega) (by omega)
      have z0 := w8_c y0.1
      have x0 := y0.2
      have y1 := hM.2 (s.1 + 1) (by omega) (by omega)
      have z1 := w8_c y1.1
      have x1 := y1.2
      have y2 := hM.2 (s.1 + 2) (by omega) (by omega)
      have z2 := w8_c y2.1
      have x2 := y2.2
      have y3 := hM.2 (s.1 + 3) (by omega) (by omega)
      have z3 := w8_c y3.1
      have x3 := y3.2
      refine e_iconst 27 dX9_spells_26 rfl ?_
      refine e_istore_n (i := 2) (lsn := [(2, _), (0, _), (1, _)]) 28 dX9_spells_27 rfl (by decide) rfl rfl ?_
      refine e_iload_n (i := 2) 29 dX9_spells_28 rfl rfl rfl ?_
      refine e_aloadF_n (i := 1) 30 dX9_spells_29 rfl rfl rfl ?_
      refine e_callF (av := []) 33 (i := 0) (by decide) mt_yJ_len mv_yJ_len wd_559 (by decide) dX9_spells_30 rfl rfl rfl (Nat.le_of_ble_eq_true rfl) (jroom (by decide)) rfl (c_strlen (i := 0) (z := 4) (by decide) (by decide) ?_)
      dsimp only [jpush]
      refine e_icmp_ge 36 63 dX9_spells_33 (by decide) (by decide) (by decide) rfl (fun h => absurd h (by decide)) (fun _ => ?_)
      refine e_aload_n (i := 0) 37 dX9_spells_36 rfl rfl rfl ?_
      refine e_getr (j := 0) 40 fl_9_9 dX9_spells_37 at_883 rfl rfl tp_883_0 rfl ?_
      refine e_aload_n (i := 0) 41 dX9_spells_40 rfl rfl rfl ?_
      refine e_geti (j := 5) 44 fl_9_34 dX9_spells_41 at_883 (by decide) rfl rfl (fun r41 => ?_)
      refine e_iload_n (i := 2) 45 dX9_spells_44 rfl rfl rfl ?_
      refine e_iadd 46 dX9_spells_45 rfl ?_
      refine e_bald 47 dX9_spells_46 ar_884 (by omega) (by omega) rfl (fun r46 => ?_)
      simp only [e5, e84, Int.reduceAdd, Int.add_zero] at r46 ⊢
      refine e_aloadF_n (i := 1) 48 dX9_spells_47 rfl rfl rfl ?_
      refine e_iload_n (i := 2) 49 dX9_spells_48 rfl rfl rfl ?_
      refine e_callF (av := [jI _]) 52 (i := 0) (by decide) mt_yJ_charAt mv_yJ_charAt wd_569 (by decide) dX9_spells_49 rfl rfl rfl (Nat.le_of_ble_eq_true rfl) (jroom (by decide)) rfl (c_charAt (i := 0) (k := 0) (z := 117) (by decide) (by decide) (by decide +kernel) ?_)
      dsimp only [jpush]
      refine e_icmp_eq 55 57 dX9_spells_52 (by omega) (by decide) (by decide) rfl (fun b52 => ?_) (fun b52 => ?_)
      · skip
        refine e_iinc (lsn := [(2, _), (0, _), (1, _)]) 60 dX9_spells_57 rfl (by decide) rfl rfl ?_
        refine e_goto 28 dX9_spells_60 (by decide) ?_
        refine e_iload_n (i := 2) 29 dX9_spells_28 rfl rfl rfl ?_
        refine e_aloadF_n (i := 1) 30 dX9_spells_29 rfl rfl rfl ?_
        refine e_callF (av := []) 33 (i := 0) (by decide) mt_yJ_len mv_yJ_len wd_559 (by decide) dX9_spells_30 rfl rfl rfl (Nat.le_of_ble_eq_true rfl) (jroom (by decide)) rfl (c_strlen (i := 0) (z := 4) (by decide) (by decide) ?_)
        dsimp only [jpush]
        refine e_icmp_ge 36 63 dX9_spells_33 (by decide) (by decide) (by decide) rfl (fun h => absurd h (by decide)) (fun _ => ?_)
        refine e_aload_n (i := 0) 37 dX9_spells_36 rfl rfl rfl ?_
        refine e_getr (j := 0) 40 fl_9_9 dX9_spells_37 at_883 rfl rfl tp_883_0 rfl ?_
        refine e_aload_n (i := 0) 41 dX9_spells_40 rfl rfl rfl ?_
        refine e_geti (j := 5) 44 fl_9_34 dX9_spells_41 at_883 (by decide) rfl rfl (fun r41 => ?_)
        refine e_iload_n (i := 2) 45 dX9_spells_44 rfl rfl rfl ?_
        refine e_iadd 46 dX9_spells_45 rfl ?_
        refine e_bald 47 dX9_spells_46 ar_884 (by omega) (by omega) rfl (fun r46 => ?_)
        simp only [e5, e84, Int.reduceAdd, Int.add_zero] at r46 ⊢
        refine e_aloadF_n (i := 1) 48 dX9_spells_47 rfl rfl rfl ?_
        refine e_iload_n (i := 2) 49 dX9_spells_48 rfl rfl rfl ?_
        refine e_callF (av := [jI _]) 52 (i := 0) (by decide) mt_yJ_charAt mv_yJ_charAt wd_569 (by decide) dX9_spells_49 rfl rfl rfl (Nat.le_of_ble_eq_true rfl) (jroom (by decide)) rfl (c_charAt (i := 0) (k := 1) (z := 112) (by decide) (by decide) (by decide +kernel) ?_)
        dsimp only [jpush]
        refine e_icmp_eq 55 57 dX9_spells_52 (by omega) (by decide) (by decide) rfl (fun b52 => ?_) (fun b52 => ?_)
        · skip
          refine e_iinc (lsn := [(2, _), (0, _), (1, _)]) 60 dX9_spells_57 rfl (by decide) rfl rfl ?_
          refine e_goto 28 dX9_spells_60 (by decide) ?_
          refine e_iload_n (i := 2) 29 dX9_spells_28 rfl rfl rfl ?_
          refine e_aloadF_n (i := 1) 30 dX9_spells_29 rfl rfl rfl ?_
          refine e_callF (av := []) 33 (i := 0) (by decide) mt_yJ_len mv_yJ_len wd_559 (by decide) dX9_spells_30 rfl rfl rfl (Nat.le_of_ble_eq_true rfl) (jroom (by decide)) rfl (c_strlen (i := 0) (z := 4) (by decide) (by decide) ?_)
          dsimp only [jpush]
          refine e_icmp_ge 36 63 dX9_spells_33 (by decide) (by decide) (by decide) rfl (fun h => absurd h (by decide)) (fun _ => ?_)
          refine e_aload_n (i := 0) 37 dX9_spells_36 rfl rfl rfl ?_
          refine e_getr (j := 0) 40 fl_9_9 dX9_spells_37 at_883 rfl rfl tp_883_0 rfl ?_
          refine e_aload_n (i := 0) 41 dX9_spells_40 rfl rfl rfl ?_
          refine e_geti (j := 5) 44 fl_9_34 dX9_spells_41 at_883 (by decide) rfl rfl (fun r41 => ?_)
          refine e_iload_n (i := 2) 45 dX9_spells_44 rfl rfl rfl ?_
          refine e_iadd 46 dX9_spells_45 rfl ?_
          refine e_bald 47 dX9_spells_46 ar_884 (by omega) (by omega) rfl (fun r46 => ?_)
          simp only [e5, e84, Int.reduceAdd, Int.add_zero] at r46 ⊢
          refine e_aloadF_n (i := 1) 48 dX9_spells_47 rfl rfl rfl ?_
          refine e_iload_n (i := 2) 49 dX9_spells_48 rfl rfl rfl ?_
          refine e_callF (av := [jI _]) 52 (i := 0) (by decide) mt_yJ_charAt mv_yJ_charAt wd_569 (by decide) dX9_spells_49 rfl rfl rfl (Nat.le_of_ble_eq_true rfl) (jroom (by decide)) rfl (c_charAt (i := 0) (k := 2) (z := 116) (by decide) (by decide) (by decide +kernel) ?_)
          dsimp only [jpush]
          refine e_icmp_eq 55 57 dX9_spells_52 (by omega) (by decide) (by decide) rfl (fun b52 => ?_) (fun b52 => ?_)
          · skip
            refine e_iinc (lsn := [(2, _), (0, _), (1, _)]) 60 dX9_spells_57 rfl (by decide) rfl rfl ?_
            refine e_goto 28 dX9_spells_60 (by decide) ?_
            refine e_iload_n (i := 2) 29 dX9_spells_28 rfl rfl rfl ?_
            refine e_aloadF_n (i := 1) 30 dX9_spells_29 rfl rfl rfl ?_
            refine e_callF (av := []) 33 (i := 0) (by decide) mt_yJ_len mv_yJ_len wd_559 (by decide) dX9_spells_30 rfl rfl rfl (Nat.le_of_ble_eq_true rfl) (jroom (by decide)) rfl (c_strlen (i := 0) (z := 4) (by decide) (by decide) ?_)
            dsimp only [jpush]
            refine e_icmp_ge 36 63 dX9_spells_33 (by decide) (by decide) (by decide) rfl (fun h => absurd h (by decide)) (fun _ => ?_)
            refine e_aload_n (i := 0) 37 dX9_spells_36 rfl rfl rfl ?_
            refine e_getr (j := 0) 40 fl_9_9 dX9_spells_37 at_883 rfl rfl tp_883_0 rfl ?_
            refine e_aload_n (i := 0) 41 dX9_spells_40 rfl rfl rfl ?_
            refine e_geti (j := 5) 44 fl_9_34 dX9_spells_41 at_883 (by decide) rfl rfl (fun r41 => ?_)
            refine e_iload_n (i := 2) 45 dX9_spells_44 rfl rfl rfl ?_
            refine e_iadd 46 dX9_spells_45 rfl ?_
            refine e_bald 47 dX9_spells_46 ar_884 (by omega) (by omega) rfl (fun r46 => ?_)
            simp only [e5, e84, Int.reduceAdd, Int.add_zero] at r46 ⊢
            refine e_aloadF_n (i := 1) 48 dX9_spells_47 rfl rfl rfl ?_
            refine e_iload_n (i := 2) 49 dX9_spells_48 rfl rfl rfl ?_
            refine e_callF (av := [jI _]) 52 (i := 0) (by decide) mt_yJ_charAt mv_yJ_charAt wd_569 (by decide) dX9_spells_49 rfl rfl rfl (Nat.le_of_ble_eq_true rfl) (jroom (by decide)) rfl (c_charAt (i := 0) (k := 3) (z := 111) (by decide) (by decide) (by decide +kernel) ?_)
            dsimp only [jpush]
            refine e_icmp_eq 55 57 dX9_spells_52 (by omega) (by decide) (by decide) rfl (fun b52 => ?_) (fun b52 => ?_)
            · skip
              refine e_iinc (lsn := [(2, _), (0, _), (1, _)]) 60 dX9_spells_57 rfl (by decide) rfl rfl ?_
              refine e_goto 28 dX9_spells_60 (by decide) ?_
              refine e_iload_n (i := 2) 29 dX9_spells_28 rfl rfl rfl ?_
              refine e_aloadF_n (i := 1) 30 dX9_spells_29 rfl rfl rfl ?_
              refine e_callF (av := []) 33 (i := 0) (by decide) mt_yJ_len mv_yJ_len wd_559 (by decide) dX9_spells_30 rfl rfl rfl (Nat.le_of_ble_eq_true rfl) (jroom (by decide)) rfl (c_strlen (i := 0) (z := 4) (by decide) (by decide) ?_)
              dsimp only [jpush]
              refine e_icmp_ge 36 63 dX9_spells_33 (by decide) (by decide) (by decide) rfl (fun _ => ?_) (fun h => absurd h (by decide))
              refine e_iconst 64 dX9_spells_63 rfl ?_
              refine e_zret dX9_spells_64 (by decide) ?_
              first
                | (exfalso; omega)
                | (exact h1 (by
                     have hk := kw_0.mpr (show isW0 (M 931) s.1 s.2.1 by omega)
                     omega))
            · skip
              refine e_iconst 56 dX9_spells_55 rfl ?_
              refine e_zret dX9_spells_56 (by decide) ?_
              first
                | (exfalso; omega)
                | (exact h0 (fun q => by
                     have hk := kw_0.mp (show kx0 (M 931) s.1 s.2.1 = 0 by omega)
                     omega))
          · skip
            refine e_iconst 56 dX9_spells_55 rfl ?_
            refine e_zret dX9_spells_56 (by decide) ?_
            first
              | (exfalso; omega)
              | (exact h0 (fun q => by
                   have hk := kw_0.mp (show kx0 (M 931) s.1 s.2.1 = 0 by omega)
                   omega))
        · skip
          refine e_iconst 56 dX9_spells_55 rfl ?_
          refine e_zret dX9_spells_56 (by decide) ?_
          first
            | (exfalso; omega)
            | (exact h0 (fun q => by
                 have hk := kw_0.mp (show kx0 (M 931) s.1 s.2.1 = 0 by omega)
                 omega))
      · skip
        refine e_iconst 56 dX9_spells_55 rfl ?_
        refine e_zret dX9_spells_56 (by decide) ?_
        first
          | (exfalso; omega)
          | (exact h0 (fun q => by
               have hk := kw_0.mp (show kx0 (M 931) s.1 s.2.1 = 0 by omega)
               omega))
    · skip
      refine e_iconst 25 dX9_spells_24 rfl ?_
      refine e_zret dX9_spells_25 (by decide) ?_
      first
        | (exfalso; omega)
        | (exact h0 (fun q => by
             have hk := kw_0.mp (show kx0 (M 931) s.1 s.2.1 = 0 by omega)
             omega))

theorem c_spells_1 {M Z : jM} {n : Int} {Q : Int → jM → Prop} (hM : CM M n) {s : PS} (hZ : CTk M Z n s) (hI : PI n s) (h1 : s.2.2.1 = 1 → Q 1 Z) (h0 : s.2.2.1 ≠ 1 → Q 0 Z) : jCt yX9_spells cX9_spells 3 (some .boolean) 5 [jR 883, jF 7] Z Q := by
  refine jCt_of mt_yX9_spells (Nat.le_of_ble_eq_true rfl) (fun X => ?_)
  have e3 := hZ.2.2.2.1.1
  have e5 := hZ.2.2.2.1.2.1
  have eT := hZ.2.2.2.1.2.2
  have hi1 := hI.1
  have hi2 := hI.2.1
  have hn0 := hM.1
  have e84 : Z 884 = M 884 := hZ.1 884 (by omega)
  refine e_aload_n (i := 0) 1 dX9_spells_0 rfl rfl rfl ?_
  refine e_geti (j := 4) 4 fl_9_40 dX9_spells_1 at_883 (by decide) rfl rfl (fun r1 => ?_)
  refine e_iconst 5 dX9_spells_4 rfl ?_
  refine e_icmp_ne 8 24 dX9_spells_5 (by omega) (by decide) (by decide) rfl (fun b5 => ?_) (fun b5 => ?_)
  · skip
    refine e_iconst 25 dX9_spells_24 rfl ?_
    refine e_zret dX9_spells_25 (by decide) ?_
    first
      | (exfalso; omega)
      | (exact h0 (fun q => by
           have hk := kw_1.mp (show kx0 (M 931) s.1 s.2.1 = 1 by omega)
           omega))
  · skip
    refine e_aload_n (i := 0) 9 dX9_spells_8 rfl rfl rfl ?_
    refine e_geti (j := 3) 12 fl_9_28 dX9_spells_9 at_883 (by decide) rfl rfl (fun r9 => ?_)
    refine e_aload_n (i := 0) 13 dX9_spells_12 rfl rfl rfl ?_
    refine e_geti (j := 5) 16 fl_9_34 dX9_spells_13 at_883 (by decide) rfl rfl (fun r13 => ?_)
    refine e_isub 17 dX9_spells_16 rfl ?_
    refine e_aloadF_n (i := 1) 18 dX9_spells_17 rfl rfl rfl ?_
    refine e_callF (av := []) 21 (i := 1) (by decide) mt_yJ_len mv_yJ_len wd_559 (by decide) dX9_spells_18 rfl rfl rfl (Nat.le_of_ble_eq_true rfl) (jroom (by decide)) rfl (c_strlen (i := 1) (z := 4) (by decide) (by decide) ?_)
    dsimp only [jpush]
    refine e_icmp_eq 24 26 dX9_spells_21 (by omega) (by decide) (by decide) rfl (fun b21 => ?_) (fun b21 => ?_)
    · skip
      have y0 := hM.2 (s.1) (by omega) (by omega)
      have z0 := w8_c y0.1
      have x0 := y0.2
      have y1 := hM.2 (s.1 + 1) (by omega) (by omega)
      have z1 := w8_c y1.1
      have x1 := y1.2
      have y2 := hM.2 (s.1 + 2) (by omega) (by omega)
      have z2 := w8_c y2.1
      have x2 := y2.2
      have y3 := hM.2 (s.1 + 3) (by omega) (by omega)
      have z3 := w8_c y3.1
      have x3 := y3.2
      refine e_iconst 27 dX9_spells_26 rfl ?_
      refine e_istore_n (i := 2) (lsn := [(2, _), (0, _), (1, _)]) 28 dX9_spells_27 rfl (by decide) rfl rfl ?_
      refine e_iload_n (i := 2) 29 dX9_spells_28 rfl rfl rfl ?_
      refine e_aloadF_n (i := 1) 30 dX9_spells_29 rfl rfl rfl ?_
      refine e_callF (av := []) 33 (i := 1) (by decide) mt_yJ_len mv_yJ_len wd_559 (by decide) dX9_spells_30 rfl rfl rfl (Nat.le_of_ble_eq_true rfl) (jroom (by decide)) rfl (c_strlen (i := 1) (z := 4) (by decide) (by decide) ?_)
      dsimp only [jpush]
      refine e_icmp_ge 36 63 dX9_spells_33 (by decide) (by decide) (by decide) rfl (fun h => absurd h (by decide)) (fun _ => ?_)
      refine e_aload_n (i := 0) 37 dX9_spells_36 rfl rfl rfl ?_
      refine e_getr (j := 0) 40 fl_9_9 dX9_spells_37 at_883 rfl rfl tp_883_0 rfl ?_
      refine e_aload_n (i := 0) 41 dX9_spells_40 rfl rfl rfl ?_
      refine e_geti (j := 5) 44 fl_9_34 dX9_spells_41 at_883 (by decide) rfl rfl (fun r41 => ?_)
      refine e_iload_n (i := 2) 45 dX9_spells_44 rfl rfl rfl ?_
      refine e_iadd 46 dX9_spells_45 rfl ?_
      refine e_bald 47 dX9_spells_46 ar_884 (by omega) (by omega) rfl (fun r46 => ?_)
      simp only [e5, e84, Int.reduceAdd, Int.add_zero] at r46 ⊢
      refine e_aloadF_n (i := 1) 48 dX9_spells_47 rfl rfl rfl ?_
      refine e_iload_n (i := 2) 49 dX9_spells_48 rfl rfl rfl ?_
      refine e_callF (av := [jI _]) 52 (i := 1) (by decide) mt_yJ_charAt mv_yJ_charAt wd_569 (by decide) dX9_spells_49 rfl rfl rfl (Nat.le_of_ble_eq_true rfl) (jroom (by decide)) rfl (c_charAt (i := 1) (k := 0) (z := 116) (by decide) (by decide) (by decide +kernel) ?_)
      dsimp only [jpush]
      refine e_icmp_eq 55 57 dX9_spells_52 (by omega) (by decide) (by decide) rfl (fun b52 => ?_) (fun b52 => ?_)
      · skip
        refine e_iinc (lsn := [(2, _), (0, _), (1, _)]) 60 dX9_spells_57 rfl (by decide) rfl rfl ?_
        refine e_goto 28 dX9_spells_60 (by decide) ?_
        refine e_iload_n (i := 2) 29 dX9_spells_28 rfl rfl rfl ?_
        refine e_aloadF_n (i := 1) 30 dX9_spells_29 rfl rfl rfl ?_
        refine e_callF (av := []) 33 (i := 1) (by decide) mt_yJ_len mv_yJ_len wd_559 (by decide) dX9_spells_30 rfl rfl rfl (Nat.le_of_ble_eq_true rfl) (jroom (by decide)) rfl (c_strlen (i := 1) (z := 4) (by decide) (by decide) ?_)
        dsimp only [jpush]
        refine e_icmp_ge 36 63 dX9_spells_33 (by decide) (by decide) (by decide) rfl (fun h => absurd h (by decide)) (fun _ => ?_)
        refine e_aload_n (i := 0) 37 dX9_spells_36 rfl rfl rfl ?_
        refine e_getr (j := 0) 40 fl_9_9 dX9_spells_37 at_883 rfl rfl tp_883_0 rfl ?_
        refine e_aload_n (i := 0) 41 dX9_spells_40 rfl rfl rfl ?_
        refine e_geti (j := 5) 44 fl_9_34 dX9_spells_41 at_883 (by decide) rfl rfl (fun r41 => ?_)
        refine e_iload_n (i := 2) 45 dX9_spells_44 rfl rfl rfl ?_
        refine e_iadd 46 dX9_spells_45 rfl ?_
        refine e_bald 47 dX9_spells_46 ar_884 (by omega) (by omega) rfl (fun r46 => ?_)
        simp only [e5, e84, Int.reduceAdd, Int.add_zero] at r46 ⊢
        refine e_aloadF_n (i := 1) 48 dX9_spells_47 rfl rfl rfl ?_
        refine e_iload_n (i := 2) 49 dX9_spells_48 rfl rfl rfl ?_
        refine e_callF (av := [jI _]) 52 (i := 1) (by decide) mt_yJ_charAt mv_yJ_charAt wd_569 (by decide) dX9_spells_49 rfl rfl rfl (Nat.le_of_ble_eq_true rfl) (jroom (by decide)) rfl (c_charAt (i := 1) (k := 1) (z := 97) (by decide) (by decide) (by decide +kernel) ?_)
        dsimp only [jpush]
        refine e_icmp_eq 55 57 dX9_spells_52 (by omega) (by decide) (by decide) rfl (fun b52 => ?_) (fun b52 => ?_)
        · skip
          refine e_iinc (lsn := [(2, _), (0, _), (1, _)]) 60 dX9_spells_57 rfl (by decide) rfl rfl ?_
          refine e_goto 28 dX9_spells_60 (by decide) ?_
          refine e_iload_n (i := 2) 29 dX9_spells_28 rfl rfl rfl ?_
          refine e_aloadF_n (i := 1) 30 dX9_spells_29 rfl rfl rfl ?_
          refine e_callF (av := []) 33 (i := 1) (by decide) mt_yJ_len mv_yJ_len wd_559 (by decide) dX9_spells_30 rfl rfl rfl (Nat.le_of_ble_eq_true rfl) (jroom (by decide)) rfl (c_strlen (i := 1) (z := 4) (by decide) (by decide) ?_)
          dsimp only [jpush]
          refine e_icmp_ge 36 63 dX9_spells_33 (by decide) (by decide) (by decide) rfl (fun h => absurd h (by decide)) (fun _ => ?_)
          refine e_aload_n (i := 0) 37 dX9_spells_36 rfl rfl rfl ?_
          refine e_getr (j := 0) 40 fl_9_9 dX9_spells_37 at_883 rfl rfl tp_883_0 rfl ?_
          refine e_aload_n (i := 0) 41 dX9_spells_40 rfl rfl rfl ?_
          refine e_geti (j := 5) 44 fl_9_34 dX9_spells_41 at_883 (by decide) rfl rfl (fun r41 => ?_)
          refine e_iload_n (i := 2) 45 dX9_spells_44 rfl rfl rfl ?_
          refine e_iadd 46 dX9_spells_45 rfl ?_
          refine e_bald 47 dX9_spells_46 ar_884 (by omega) (by omega) rfl (fun r46 => ?_)
          simp only [e5, e84, Int.reduceAdd, Int.add_zero] at r46 ⊢
          refine e_aloadF_n (i := 1) 48 dX9_spells_47 rfl rfl rfl ?_
          refine e_iload_n (i := 2) 49 dX9_spells_48 rfl rfl rfl ?_
          refine e_callF (av := [jI _]) 52 (i := 1) (by decide) mt_yJ_charAt mv_yJ_charAt wd_569 (by decide) dX9_spells_49 rfl rfl rfl (Nat.le_of_ble_eq_true rfl) (jroom (by decide)) rfl (c_charAt (i := 1) (k := 2) (z := 107) (by decide) (by decide) (by decide +kernel) ?_)
          dsimp only [jpush]
          refine e_icmp_eq 55 57 dX9_spells_52 (by omega) (by decide) (by decide) rfl (fun b52 => ?_) (fun b52 => ?_)
          · skip
            refine e_iinc (lsn := [(2, _), (0, _), (1, _)]) 60 dX9_spells_57 rfl (by decide) rfl rfl ?_
            refine e_goto 28 dX9_spells_60 (by decide) ?_
            refine e_iload_n (i := 2) 29 dX9_spells_28 rfl rfl rfl ?_
            refine e_aloadF_n (i := 1) 30 dX9_spells_29 rfl rfl rfl ?_
            refine e_callF (av := []) 33 (i := 1) (by decide) mt_yJ_len mv_yJ_len wd_559 (by decide) dX9_spells_30 rfl rfl rfl (Nat.le_of_ble_eq_true rfl) (jroom (by decide)) rfl (c_strlen (i := 1) (z := 4) (by decide) (by decide) ?_)
            dsimp only [jpush]
            refine e_icmp_ge 36 63 dX9_spells_33 (by decide) (by decide) (by decide) rfl (fun h => absurd h (by decide)) (fun _ => ?_)
            refine e_aload_n (i := 0) 37 dX9_spells_36 rfl rfl rfl ?_
            refine e_getr (j := 0) 40 fl_9_9 dX9_spells_37 at_883 rfl rfl tp_883_0 rfl ?_
            refine e_aload_n (i := 0) 41 dX9_spells_40 rfl rfl rfl ?_
            refine e_geti (j := 5) 44 fl_9_34 dX9_spells_41 at_883 (by decide) rfl rfl (fun r41 => ?_)
            refine e_iload_n (i := 2) 45 dX9_spells_44 rfl rfl rfl ?_
            refine e_iadd 46 dX9_spells_45 rfl ?_
            refine e_bald 47 dX9_spells_46 ar_884 (by omega) (by omega) rfl (fun r46 => ?_)
            simp only [e5, e84, Int.reduceAdd, Int.add_zero] at r46 ⊢
            refine e_aloadF_n (i := 1) 48 dX9_spells_47 rfl rfl rfl ?_
            refine e_iload_n (i := 2) 49 dX9_spells_48 rfl rfl rfl ?_
            refine e_callF (av := [jI _]) 52 (i := 1) (by decide) mt_yJ_charAt mv_yJ_charAt wd_569 (by decide) dX9_spells_49 rfl rfl rfl (Nat.le_of_ble_eq_true rfl) (jroom (by decide)) rfl (c_charAt (i := 1) (k := 3) (z := 101) (by decide) (by decide) (by decide +kernel) ?_)
            dsimp only [jpush]
            refine e_icmp_eq 55 57 dX9_spells_52 (by omega) (by decide) (by decide) rfl (fun b52 => ?_) (fun b52 => ?_)
            · skip
              refine e_iinc (lsn := [(2, _), (0, _), (1, _)]) 60 dX9_spells_57 rfl (by decide) rfl rfl ?_
              refine e_goto 28 dX9_spells_60 (by decide) ?_
              refine e_iload_n (i := 2) 29 dX9_spells_28 rfl rfl rfl ?_
              refine e_aloadF_n (i := 1) 30 dX9_spells_29 rfl rfl rfl ?_
              refine e_callF (av := []) 33 (i := 1) (by decide) mt_yJ_len mv_yJ_len wd_559 (by decide) dX9_spells_30 rfl rfl rfl (Nat.le_of_ble_eq_true rfl) (jroom (by decide)) rfl (c_strlen (i := 1) (z := 4) (by decide) (by decide) ?_)
              dsimp only [jpush]
              refine e_icmp_ge 36 63 dX9_spells_33 (by decide) (by decide) (by decide) rfl (fun _ => ?_) (fun h => absurd h (by decide))
              refine e_iconst 64 dX9_spells_63 rfl ?_
              refine e_zret dX9_spells_64 (by decide) ?_
              first
                | (exfalso; omega)
                | (exact h1 (by
                     have hk := kw_1.mpr (show isW1 (M 931) s.1 s.2.1 by omega)
                     omega))
            · skip
              refine e_iconst 56 dX9_spells_55 rfl ?_
              refine e_zret dX9_spells_56 (by decide) ?_
              first
                | (exfalso; omega)
                | (exact h0 (fun q => by
                     have hk := kw_1.mp (show kx0 (M 931) s.1 s.2.1 = 1 by omega)
                     omega))
          · skip
            refine e_iconst 56 dX9_spells_55 rfl ?_
            refine e_zret dX9_spells_56 (by decide) ?_
            first
              | (exfalso; omega)
              | (exact h0 (fun q => by
                   have hk := kw_1.mp (show kx0 (M 931) s.1 s.2.1 = 1 by omega)
                   omega))
        · skip
          refine e_iconst 56 dX9_spells_55 rfl ?_
          refine e_zret dX9_spells_56 (by decide) ?_
          first
            | (exfalso; omega)
            | (exact h0 (fun q => by
                 have hk := kw_1.mp (show kx0 (M 931) s.1 s.2.1 = 1 by omega)
                 omega))
      · skip
        refine e_iconst 56 dX9_spells_55 rfl ?_
        refine e_zret dX9_spells_56 (by decide) ?_
        first
          | (exfalso; omega)
          | (exact h0 (fun q => by
               have hk := kw_1.mp (show kx0 (M 931) s.1 s.2.1 = 1 by omega)
               omega))
    · skip
      refine e_iconst 25 dX9_spells_24 rfl ?_
      refine e_zret dX9_spells_25 (by decide) ?_
      first
        | (exfalso; omega)
        | (exact h0 (fun q => by
             have hk := kw_1.mp (show kx0 (M 931) s.1 s.2.1 = 1 by omega)
             omega))

theorem c_spells_2 {M Z : jM} {n : Int} {Q : Int → jM → Prop} (hM : CM M n) {s : PS} (hZ : CTk M Z n s) (hI : PI n s) (h1 : s.2.2.1 = 2 → Q 1 Z) (h0 : s.2.2.1 ≠ 2 → Q 0 Z) : jCt yX9_spells cX9_spells 3 (some .boolean) 5 [jR 883, jF 8] Z Q := by
  refine jCt_of mt_yX9_spells (Nat.le_of_ble_eq_true rfl) (fun X => ?_)
  have e3 := hZ.2.2.2.1.1
  have e5 := hZ.2.2.2.1.2.1
  have eT := hZ.2.2.2.1.2.2
  have hi1 := hI.1
  have hi2 := hI.2.1
  have hn0 := hM.1
  have e84 : Z 884 = M 884 := hZ.1 884 (by omega)
  refine e_aload_n (i := 0) 1 dX9_spells_0 rfl rfl rfl ?_
  refine e_geti (j := 4) 4 fl_9_40 dX9_spells_1 at_883 (by decide) rfl rfl (fun r1 => ?_)
  refine e_iconst 5 dX9_spells_4 rfl ?_
  refine e_icmp_ne 8 24 dX9_spells_5 (by omega) (by decide) (by decide) rfl (fun b5 => ?_) (fun b5 => ?_)
  · skip
    refine e_iconst 25 dX9_spells_24 rfl ?_
    refine e_zret dX9_spells_25 (by decide) ?_
    first
      | (exfalso; omega)
      | (exact h0 (fun q => by
           have hk := kw_2.mp (show kx0 (M 931) s.1 s.2.1 = 2 by omega)
           omega))
  · skip
    refine e_aload_n (i := 0) 9 dX9_spells_8 rfl rfl rfl ?_
    refine e_geti (j := 3) 12 fl_9_28 dX9_spells_9 at_883 (by decide) rfl rfl (fun r9 => ?_)
    refine e_aload_n (i := 0) 13 dX9_spells_12 rfl rfl rfl ?_
    refine e_geti (j := 5) 16 fl_9_34 dX9_spells_13 at_883 (by decide) rfl rfl (fun r13 => ?_)
    refine e_isub 17 dX9_spells_16 rfl ?_
    refine e_aloadF_n (i := 1) 18 dX9_spells_17 rfl rfl rfl ?_
    refine e_callF (av := []) 21 (i := 2) (by decide) mt_yJ_len mv_yJ_len wd_559 (by decide) dX9_spells_18 rfl rfl rfl (Nat.le_of_ble_eq_true rfl) (jroom (by decide)) rfl (c_strlen (i := 2) (z := 3) (by decide) (by decide) ?_)
    dsimp only [jpush]
    refine e_icmp_eq 24 26 dX9_spells_21 (by omega) (by decide) (by decide) rfl (fun b21 => ?_) (fun b21 => ?_)
    · skip
      have y0 := hM.2 (s.1) (by omega) (by omega)
      have z0 := w8_c y0.1
      have x0 := y0.2
      have y1 := hM.2 (s.1 + 1) (by omega) (by omega)
      have z1 := w8_c y1.1
      have x1 := y1.2
      have y2 := hM.2 (s.1 + 2) (by omega) (by omega)
      have z2 := w8_c y2.1
      have x2 := y2.2
      refine e_iconst 27 dX9_spells_26 rfl ?_
      refine e_istore_n (i := 2) (lsn := [(2, _), (0, _), (1, _)]) 28 dX9_spells_27 rfl (by decide) rfl rfl ?_
      refine e_iload_n (i := 2) 29 dX9_spells_28 rfl rfl rfl ?_
      refine e_aloadF_n (i := 1) 30 dX9_spells_29 rfl rfl rfl ?_
      refine e_callF (av := []) 33 (i := 2) (by decide) mt_yJ_len mv_yJ_len wd_559 (by decide) dX9_spells_30 rfl rfl rfl (Nat.le_of_ble_eq_true rfl) (jroom (by decide)) rfl (c_strlen (i := 2) (z := 3) (by decide) (by decide) ?_)
      dsimp only [jpush]
      refine e_icmp_ge 36 63 dX9_spells_33 (by decide) (by decide) (by decide) rfl (fun h => absurd h (by decide)) (fun _ => ?_)
      refine e_aload_n (i := 0) 37 dX9_spells_36 rfl rfl rfl ?_
      refine e_getr (j := 0) 40 fl_9_9 dX9_spells_37 at_883 rfl rfl tp_883_0 rfl ?_
      refine e_aload_n (i := 0) 41 dX9_spells_40 rfl rfl rfl ?_
      refine e_geti (j := 5) 44 fl_9_34 dX9_spells_41 at_883 (by decide) rfl rfl (fun r41 => ?_)
      refine e_iload_n (i := 2) 45 dX9_spells_44 rfl rfl rfl ?_
      refine e_iadd 46 dX9_spells_45 rfl ?_
      refine e_bald 47 dX9_spells_46 ar_884 (by omega) (by omega) rfl (fun r46 => ?_)
      simp only [e5, e84, Int.reduceAdd, Int.add_zero] at r46 ⊢
      refine e_aloadF_n (i := 1) 48 dX9_spells_47 rfl rfl rfl ?_
      refine e_iload_n (i := 2) 49 dX9_spells_48 rfl rfl rfl ?_
      refine e_callF (av := [jI _]) 52 (i := 2) (by decide) mt_yJ_charAt mv_yJ_charAt wd_569 (by decide) dX9_spells_49 rfl rfl rfl (Nat.le_of_ble_eq_true rfl) (jroom (by decide)) rfl (c_charAt (i := 2) (k := 0) (z := 112) (by decide) (by decide) (by decide +kernel) ?_)
      dsimp only [jpush]
      refine e_icmp_eq 55 57 dX9_spells_52 (by omega) (by decide) (by decide) rfl (fun b52 => ?_) (fun b52 => ?_)
      · skip
        refine e_iinc (lsn := [(2, _), (0, _), (1, _)]) 60 dX9_spells_57 rfl (by decide) rfl rfl ?_
        refine e_goto 28 dX9_spells_60 (by decide) ?_
        refine e_iload_n (i := 2) 29 dX9_spells_28 rfl rfl rfl ?_
        refine e_aloadF_n (i := 1) 30 dX9_spells_29 rfl rfl rfl ?_
        refine e_callF (av := []) 33 (i := 2) (by decide) mt_yJ_len mv_yJ_len wd_559 (by decide) dX9_spells_30 rfl rfl rfl (Nat.le_of_ble_eq_true rfl) (jroom (by decide)) rfl (c_strlen (i := 2) (z := 3) (by decide) (by decide) ?_)
        dsimp only [jpush]
        refine e_icmp_ge 36 63 dX9_spells_33 (by decide) (by decide) (by decide) rfl (fun h => absurd h (by decide)) (fun _ => ?_)
        refine e_aload_n (i := 0) 37 dX9_spells_36 rfl rfl rfl ?_
        refine e_getr (j := 0) 40 fl_9_9 dX9_spells_37 at_883 rfl rfl tp_883_0 rfl ?_
        refine e_aload_n (i := 0) 41 dX9_spells_40 rfl rfl rfl ?_
        refine e_geti (j := 5) 44 fl_9_34 dX9_spells_41 at_883 (by decide) rfl rfl (fun r41 => ?_)
        refine e_iload_n (i := 2) 45 dX9_spells_44 rfl rfl rfl ?_
        refine e_iadd 46 dX9_spells_45 rfl ?_
        refine e_bald 47 dX9_spells_46 ar_884 (by omega) (by omega) rfl (fun r46 => ?_)
        simp only [e5, e84, Int.reduceAdd, Int.add_zero] at r46 ⊢
        refine e_aloadF_n (i := 1) 48 dX9_spells_47 rfl rfl rfl ?_
        refine e_iload_n (i := 2) 49 dX9_spells_48 rfl rfl rfl ?_
        refine e_callF (av := [jI _]) 52 (i := 2) (by decide) mt_yJ_charAt mv_yJ_charAt wd_569 (by decide) dX9_spells_49 rfl rfl rfl (Nat.le_of_ble_eq_true rfl) (jroom (by decide)) rfl (c_charAt (i := 2) (k := 1) (z := 101) (by decide) (by decide) (by decide +kernel) ?_)
        dsimp only [jpush]
        refine e_icmp_eq 55 57 dX9_spells_52 (by omega) (by decide) (by decide) rfl (fun b52 => ?_) (fun b52 => ?_)
        · skip
          refine e_iinc (lsn := [(2, _), (0, _), (1, _)]) 60 dX9_spells_57 rfl (by decide) rfl rfl ?_
          refine e_goto 28 dX9_spells_60 (by decide) ?_
          refine e_iload_n (i := 2) 29 dX9_spells_28 rfl rfl rfl ?_
          refine e_aloadF_n (i := 1) 30 dX9_spells_29 rfl rfl rfl ?_
          refine e_callF (av := []) 33 (i := 2) (by decide) mt_yJ_len mv_yJ_len wd_559 (by decide) dX9_spells_30 rfl rfl rfl (Nat.le_of_ble_eq_true rfl) (jroom (by decide)) rfl (c_strlen (i := 2) (z := 3) (by decide) (by decide) ?_)
          dsimp only [jpush]
          refine e_icmp_ge 36 63 dX9_spells_33 (by decide) (by decide) (by decide) rfl (fun h => absurd h (by decide)) (fun _ => ?_)
          refine e_aload_n (i := 0) 37 dX9_spells_36 rfl rfl rfl ?_
          refine e_getr (j := 0) 40 fl_9_9 dX9_spells_37 at_883 rfl rfl tp_883_0 rfl ?_
          refine e_aload_n (i := 0) 41 dX9_spells_40 rfl rfl rfl ?_
          refine e_geti (j := 5) 44 fl_9_34 dX9_spells_41 at_883 (by decide) rfl rfl (fun r41 => ?_)
          refine e_iload_n (i := 2) 45 dX9_spells_44 rfl rfl rfl ?_
          refine e_iadd 46 dX9_spells_45 rfl ?_
          refine e_bald 47 dX9_spells_46 ar_884 (by omega) (by omega) rfl (fun r46 => ?_)
          simp only [e5, e84, Int.reduceAdd, Int.add_zero] at r46 ⊢
          refine e_aloadF_n (i := 1) 48 dX9_spells_47 rfl rfl rfl ?_
          refine e_iload_n (i := 2) 49 dX9_spells_48 rfl rfl rfl ?_
          refine e_callF (av := [jI _]) 52 (i := 2) (by decide) mt_yJ_charAt mv_yJ_charAt wd_569 (by decide) dX9_spells_49 rfl rfl rfl (Nat.le_of_ble_eq_true rfl) (jroom (by decide)) rfl (c_charAt (i := 2) (k := 2) (z := 114) (by decide) (by decide) (by decide +kernel) ?_)
          dsimp only [jpush]
          refine e_icmp_eq 55 57 dX9_spells_52 (by omega) (by decide) (by decide) rfl (fun b52 => ?_) (fun b52 => ?_)
          · skip
            refine e_iinc (lsn := [(2, _), (0, _), (1, _)]) 60 dX9_spells_57 rfl (by decide) rfl rfl ?_
            refine e_goto 28 dX9_spells_60 (by decide) ?_
            refine e_iload_n (i := 2) 29 dX9_spells_28 rfl rfl rfl ?_
            refine e_aloadF_n (i := 1) 30 dX9_spells_29 rfl rfl rfl ?_
            refine e_callF (av := []) 33 (i := 2) (by decide) mt_yJ_len mv_yJ_len wd_559 (by decide) dX9_spells_30 rfl rfl rfl (Nat.le_of_ble_eq_true rfl) (jroom (by decide)) rfl (c_strlen (i := 2) (z := 3) (by decide) (by decide) ?_)
            dsimp only [jpush]
            refine e_icmp_ge 36 63 dX9_spells_33 (by decide) (by decide) (by decide) rfl (fun _ => ?_) (fun h => absurd h (by decide))
            refine e_iconst 64 dX9_spells_63 rfl ?_
            refine e_zret dX9_spells_64 (by decide) ?_
            first
              | (exfalso; omega)
              | (exact h1 (by
                   have hk := kw_2.mpr (show isW2 (M 931) s.1 s.2.1 by omega)
                   omega))
          · skip
            refine e_iconst 56 dX9_spells_55 rfl ?_
            refine e_zret dX9_spells_56 (by decide) ?_
            first
              | (exfalso; omega)
              | (exact h0 (fun q => by
                   have hk := kw_2.mp (show kx0 (M 931) s.1 s.2.1 = 2 by omega)
                   omega))
        · skip
          refine e_iconst 56 dX9_spells_55 rfl ?_
          refine e_zret dX9_spells_56 (by decide) ?_
          first
            | (exfalso; omega)
            | (exact h0 (fun q => by
                 have hk := kw_2.mp (show kx0 (M 931) s.1 s.2.1 = 2 by omega)
                 omega))
      · skip
        refine e_iconst 56 dX9_spells_55 rfl ?_
        refine e_zret dX9_spells_56 (by decide) ?_
        first
          | (exfalso; omega)
          | (exact h0 (fun q => by
               have hk := kw_2.mp (show kx0 (M 931) s.1 s.2.1 = 2 by omega)
               omega))
    · skip
      refine e_iconst 25 dX9_spells_24 rfl ?_
      refine e_zret dX9_spells_25 (by decide) ?_
      first
        | (exfalso; omega)
        | (exact h0 (fun q => by
             have hk := kw_2.mp (show kx0 (M 931) s.1 s.2.1 = 2 by omega)
             omega))

theorem c_spells_3 {M Z : jM} {n : Int} {Q : Int → jM → Prop} (hM : CM M n) {s : PS} (hZ : CTk M Z n s) (hI : PI n s) (h1 : s.2.2.1 = 3 → Q 1 Z) (h0 : s.2.2.1 ≠ 3 → Q 0 Z) : jCt yX9_spells cX9_spells 3 (some .boolean) 5 [jR 883, jF 9] Z Q := by
  refine jCt_of mt_yX9_spells (Nat.le_of_ble_eq_true rfl) (fun X => ?_)
  have e3 := hZ.2.2.2.1.1
  have e5 := hZ.2.2.2.1.2.1
  have eT := hZ.2.2.2.1.2.2
  have hi1 := hI.1
  have hi2 := hI.2.1
  have hn0 := hM.1
  have e84 : Z 884 = M 884 := hZ.1 884 (by omega)
  refine e_aload_n (i := 0) 1 dX9_spells_0 rfl rfl rfl ?_
  refine e_geti (j := 4) 4 fl_9_40 dX9_spells_1 at_883 (by decide) rfl rfl (fun r1 => ?_)
  refine e_iconst 5 dX9_spells_4 rfl ?_
  refine e_icmp_ne 8 24 dX9_spells_5 (by omega) (by decide) (by decide) rfl (fun b5 => ?_) (fun b5 => ?_)
  · skip
    refine e_iconst 25 dX9_spells_24 rfl ?_
    refine e_zret dX9_spells_25 (by decide) ?_
    first
      | (exfalso; omega)
      | (exact h0 (fun q => by
           have hk := kw_3.mp (show kx0 (M 931) s.1 s.2.1 = 3 by omega)
           omega))
  · skip
    refine e_aload_n (i := 0) 9 dX9_spells_8 rfl rfl rfl ?_
    refine e_geti (j := 3) 12 fl_9_28 dX9_spells_9 at_883 (by decide) rfl rfl (fun r9 => ?_)
    refine e_aload_n (i := 0) 13 dX9_spells_12 rfl rfl rfl ?_
    refine e_geti (j := 5) 16 fl_9_34 dX9_spells_13 at_883 (by decide) rfl rfl (fun r13 => ?_)
    refine e_isub 17 dX9_spells_16 rfl ?_
    refine e_aloadF_n (i := 1) 18 dX9_spells_17 rfl rfl rfl ?_
    refine e_callF (av := []) 21 (i := 3) (by decide) mt_yJ_len mv_yJ_len wd_559 (by decide) dX9_spells_18 rfl rfl rfl (Nat.le_of_ble_eq_true rfl) (jroom (by decide)) rfl (c_strlen (i := 3) (z := 5) (by decide) (by decide) ?_)
    dsimp only [jpush]
    refine e_icmp_eq 24 26 dX9_spells_21 (by omega) (by decide) (by decide) rfl (fun b21 => ?_) (fun b21 => ?_)
    · skip
      have y0 := hM.2 (s.1) (by omega) (by omega)
      have z0 := w8_c y0.1
      have x0 := y0.2
      have y1 := hM.2 (s.1 + 1) (by omega) (by omega)
      have z1 := w8_c y1.1
      have x1 := y1.2
      have y2 := hM.2 (s.1 + 2) (by omega) (by omega)
      have z2 := w8_c y2.1
      have x2 := y2.2
      have y3 := hM.2 (s.1 + 3) (by omega) (by omega)
      have z3 := w8_c y3.1
      have x3 := y3.2
      have y4 := hM.2 (s.1 + 4) (by omega) (by omega)
      have z4 := w8_c y4.1
      have x4 := y4.2
      refine e_iconst 27 dX9_spells_26 rfl ?_
      refine e_istore_n (i := 2) (lsn := [(2, _), (0, _), (1, _)]) 28 dX9_spells_27 rfl (by decide) rfl rfl ?_
      refine e_iload_n (i := 2) 29 dX9_spells_28 rfl rfl rfl ?_
      refine e_aloadF_n (i := 1) 30 dX9_spells_29 rfl rfl rfl ?_
      refine e_callF (av := []) 33 (i := 3) (by decide) mt_yJ_len mv_yJ_len wd_559 (by decide) dX9_spells_30 rfl rfl rfl (Nat.le_of_ble_eq_true rfl) (jroom (by decide)) rfl (c_strlen (i := 3) (z := 5) (by decide) (by decide) ?_)
      dsimp only [jpush]
      refine e_icmp_ge 36 63 dX9_spells_33 (by decide) (by decide) (by decide) rfl (fun h => absurd h (by decide)) (fun _ => ?_)
      refine e_aload_n (i := 0) 37 dX9_spells_36 rfl rfl rfl ?_
      refine e_getr (j := 0) 40 fl_9_9 dX9_spells_37 at_883 rfl rfl tp_883_0 rfl ?_
      refine e_aload_n (i := 0) 41 dX9_spells_40 rfl rfl rfl ?_
      refine e_geti (j := 5) 44 fl_9_34 dX9_spells_41 at_883 (by decide) rfl rfl (fun r41 => ?_)
      refine e_iload_n (i := 2) 45 dX9_spells_44 rfl rfl rfl ?_
      refine e_iadd 46 dX9_spells_45 rfl ?_
      refine e_bald 47 dX9_spells_46 ar_884 (by omega) (by omega) rfl (fun r46 => ?_)
      simp only [e5, e84, Int.reduceAdd, Int.add_zero] at r46 ⊢
      refine e_aloadF_n (i := 1) 48 dX9_spells_47 rfl rfl rfl ?_
      refine e_iload_n (i := 2) 49 dX9_spells_48 rfl rfl rfl ?_
      refine e_callF (av := [jI _]) 52 (i := 3) (by decide) mt_yJ_charAt mv_yJ_charAt wd_569 (by decide) dX9_spells_49 rfl rfl rfl (Nat.le_of_ble_eq_true rfl) (jroom (by decide)) rfl (c_charAt (i := 3) (k := 0) (z := 108) (by decide) (by decide) (by decide +kernel) ?_)
      dsimp only [jpush]
      refine e_icmp_eq 55 57 dX9_spells_52 (by omega) (by decide) (by decide) rfl (fun b52 => ?_) (fun b52 => ?_)
      · skip
        refine e_iinc (lsn := [(2, _), (0, _), (1, _)]) 60 dX9_spells_57 rfl (by decide) rfl rfl ?_
        refine e_goto 28 dX9_spells_60 (by decide) ?_
        refine e_iload_n (i := 2) 29 dX9_spells_28 rfl rfl rfl ?_
        refine e_aloadF_n (i := 1) 30 dX9_spells_29 rfl rfl rfl ?_
        refine e_callF (av := []) 33 (i := 3) (by decide) mt_yJ_len mv_yJ_len wd_559 (by decide) dX9_spells_30 rfl rfl rfl (Nat.le_of_ble_eq_true rfl) (jroom (by decide)) rfl (c_strlen (i := 3) (z := 5) (by decide) (by decide) ?_)
        dsimp only [jpush]
        refine e_icmp_ge 36 63 dX9_spells_33 (by decide) (by decide) (by decide) rfl (fun h => absurd h (by decide)) (fun _ => ?_)
        refine e_aload_n (i := 0) 37 dX9_spells_36 rfl rfl rfl ?_
        refine e_getr (j := 0) 40 fl_9_9 dX9_spells_37 at_883 rfl rfl tp_883_0 rfl ?_
        refine e_aload_n (i := 0) 41 dX9_spells_40 rfl rfl rfl ?_
        refine e_geti (j := 5) 44 fl_9_34 dX9_spells_41 at_883 (by decide) rfl rfl (fun r41 => ?_)
        refine e_iload_n (i := 2) 45 dX9_spells_44 rfl rfl rfl ?_
        refine e_iadd 46 dX9_spells_45 rfl ?_
        refine e_bald 47 dX9_spells_46 ar_884 (by omega) (by omega) rfl (fun r46 => ?_)
        simp only [e5, e84, Int.reduceAdd, Int.add_zero] at r46 ⊢
        refine e_aloadF_n (i := 1) 48 dX9_spells_47 rfl rfl rfl ?_
        refine e_iload_n (i := 2) 49 dX9_spells_48 rfl rfl rfl ?_
        refine e_callF (av := [jI _]) 52 (i := 3) (by decide) mt_yJ_charAt mv_yJ_charAt wd_569 (by decide) dX9_spells_49 rfl rfl rfl (Nat.le_of_ble_eq_true rfl) (jroom (by decide)) rfl (c_charAt (i := 3) (k := 1) (z := 101) (by decide) (by decide) (by decide +kernel) ?_)
        dsimp only [jpush]
        refine e_icmp_eq 55 57 dX9_spells_52 (by omega) (by decide) (by decide) rfl (fun b52 => ?_) (fun b52 => ?_)
        · skip
          refine e_iinc (lsn := [(2, _), (0, _), (1, _)]) 60 dX9_spells_57 rfl (by decide) rfl rfl ?_
          refine e_goto 28 dX9_spells_60 (by decide) ?_
          refine e_iload_n (i := 2) 29 dX9_spells_28 rfl rfl rfl ?_
          refine e_aloadF_n (i := 1) 30 dX9_spells_29 rfl rfl rfl ?_
          refine e_callF (av := []) 33 (i := 3) (by decide) mt_yJ_len mv_yJ_len wd_559 (by decide) dX9_spells_30 rfl rfl rfl (Nat.le_of_ble_eq_true rfl) (jroom (by decide)) rfl (c_strlen (i := 3) (z := 5) (by decide) (by decide) ?_)
          dsimp only [jpush]
          refine e_icmp_ge 36 63 dX9_spells_33 (by decide) (by decide) (by decide) rfl (fun h => absurd h (by decide)) (fun _ => ?_)
          refine e_aload_n (i := 0) 37 dX9_spells_36 rfl rfl rfl ?_
          refine e_getr (j := 0) 40 fl_9_9 dX9_spells_37 at_883 rfl rfl tp_883_0 rfl ?_
          refine e_aload_n (i := 0) 41 dX9_spells_40 rfl rfl rfl ?_
          refine e_geti (j := 5) 44 fl_9_34 dX9_spells_41 at_883 (by decide) rfl rfl (fun r41 => ?_)
          refine e_iload_n (i := 2) 45 dX9_spells_44 rfl rfl rfl ?_
          refine e_iadd 46 dX9_spells_45 rfl ?_
          refine e_bald 47 dX9_spells_46 ar_884 (by omega) (by omega) rfl (fun r46 => ?_)
          simp only [e5, e84, Int.reduceAdd, Int.add_zero] at r46 ⊢
          refine e_aloadF_n (i := 1) 48 dX9_spells_47 rfl rfl rfl ?_
          refine e_iload_n (i := 2) 49 dX9_spells_48 rfl rfl rfl ?_
          refine e_callF (av := [jI _]) 52 (i := 3) (by decide) mt_yJ_charAt mv_yJ_charAt wd_569 (by decide) dX9_spells_49 rfl rfl rfl (Nat.le_of_ble_eq_true rfl) (jroom (by decide)) rfl (c_charAt (i := 3) (k := 2) (z := 97) (by decide) (by decide) (by decide +kernel) ?_)
          dsimp only [jpush]
          refine e_icmp_eq 55 57 dX9_spells_52 (by omega) (by decide) (by decide) rfl (fun b52 => ?_) (fun b52 => ?_)
          · skip
            refine e_iinc (lsn := [(2, _), (0, _), (1, _)]) 60 dX9_spells_57 rfl (by decide) rfl rfl ?_
            refine e_goto 28 dX9_spells_60 (by decide) ?_
            refine e_iload_n (i := 2) 29 dX9_spells_28 rfl rfl rfl ?_
            refine e_aloadF_n (i := 1) 30 dX9_spells_29 rfl rfl rfl ?_
            refine e_callF (av := []) 33 (i := 3) (by decide) mt_yJ_len mv_yJ_len wd_559 (by decide) dX9_spells_30 rfl rfl rfl (Nat.le_of_ble_eq_true rfl) (jroom (by decide)) rfl (c_strlen (i := 3) (z := 5) (by decide) (by decide) ?_)
            dsimp only [jpush]
            refine e_icmp_ge 36 63 dX9_spells_33 (by decide) (by decide) (by decide) rfl (fun h => absurd h (by decide)) (fun _ => ?_)
            refine e_aload_n (i := 0) 37 dX9_spells_36 rfl rfl rfl ?_
            refine e_getr (j := 0) 40 fl_9_9 dX9_spells_37 at_883 rfl rfl tp_883_0 rfl ?_
            refine e_aload_n (i := 0) 41 dX9_spells_40 rfl rfl rfl ?_
            refine e_geti (j := 5) 44 fl_9_34 dX9_spells_41 at_883 (by decide) rfl rfl (fun r41 => ?_)
            refine e_iload_n (i := 2) 45 dX9_spells_44 rfl rfl rfl ?_
            refine e_iadd 46 dX9_spells_45 rfl ?_
            refine e_bald 47 dX9_spells_46 ar_884 (by omega) (by omega) rfl (fun r46 => ?_)
            simp only [e5, e84, Int.reduceAdd, Int.add_zero] at r46 ⊢
            refine e_aloadF_n (i := 1) 48 dX9_spells_47 rfl rfl rfl ?_
            refine e_iload_n (i := 2) 49 dX9_spells_48 rfl rfl rfl ?_
            refine e_callF (av := [jI _]) 52 (i := 3) (by decide) mt_yJ_charAt mv_yJ_charAt wd_569 (by decide) dX9_spells_49 rfl rfl rfl (Nat.le_of_ble_eq_true rfl) (jroom (by decide)) rfl (c_charAt (i := 3) (k := 3) (z := 115) (by decide) (by decide) (by decide +kernel) ?_)
            dsimp only [jpush]
            refine e_icmp_eq 55 57 dX9_spells_52 (by omega) (by decide) (by decide) rfl (fun b52 => ?_) (fun b52 => ?_)
            · skip
              refine e_iinc (lsn := [(2, _), (0, _), (1, _)]) 60 dX9_spells_57 rfl (by decide) rfl rfl ?_
              refine e_goto 28 dX9_spells_60 (by decide) ?_
              refine e_iload_n (i := 2) 29 dX9_spells_28 rfl rfl rfl ?_
              refine e_aloadF_n (i := 1) 30 dX9_spells_29 rfl rfl rfl ?_
              refine e_callF (av := []) 33 (i := 3) (by decide) mt_yJ_len mv_yJ_len wd_559 (by decide) dX9_spells_30 rfl rfl rfl (Nat.le_of_ble_eq_true rfl) (jroom (by decide)) rfl (c_strlen (i := 3) (z := 5) (by decide) (by decide) ?_)
              dsimp only [jpush]
              refine e_icmp_ge 36 63 dX9_spells_33 (by decide) (by decide) (by decide) rfl (fun h => absurd h (by decide)) (fun _ => ?_)
              refine e_aload_n (i := 0) 37 dX9_spells_36 rfl rfl rfl ?_
              refine e_getr (j := 0) 40 fl_9_9 dX9_spells_37 at_883 rfl rfl tp_883_0 rfl ?_
              refine e_aload_n (i := 0) 41 dX9_spells_40 rfl rfl rfl ?_
              refine e_geti (j := 5) 44 fl_9_34 dX9_spells_41 at_883 (by decide) rfl rfl (fun r41 => ?_)
              refine e_iload_n (i := 2) 45 dX9_spells_44 rfl rfl rfl ?_
              refine e_iadd 46 dX9_spells_45 rfl ?_
              refine e_bald 47 dX9_spells_46 ar_884 (by omega) (by omega) rfl (fun r46 => ?_)
              simp only [e5, e84, Int.reduceAdd, Int.add_zero] at r46 ⊢
              refine e_aloadF_n (i := 1) 48 dX9_spells_47 rfl rfl rfl ?_
              refine e_iload_n (i := 2) 49 dX9_spells_48 rfl rfl rfl ?_
              refine e_callF (av := [jI _]) 52 (i := 3) (by decide) mt_yJ_charAt mv_yJ_charAt wd_569 (by decide) dX9_spells_49 rfl rfl rfl (Nat.le_of_ble_eq_true rfl) (jroom (by decide)) rfl (c_charAt (i := 3) (k := 4) (z := 116) (by decide) (by decide) (by decide +kernel) ?_)
              dsimp only [jpush]
              refine e_icmp_eq 55 57 dX9_spells_52 (by omega) (by decide) (by decide) rfl (fun b52 => ?_) (fun b52 => ?_)
              · skip
                refine e_iinc (lsn := [(2, _), (0, _), (1, _)]) 60 dX9_spells_57 rfl (by decide) rfl rfl ?_
                refine e_goto 28 dX9_spells_60 (by decide) ?_
                refine e_iload_n (i := 2) 29 dX9_spells_28 rfl rfl rfl ?_
                refine e_aloadF_n (i := 1) 30 dX9_spells_29 rfl rfl rfl ?_
                refine e_callF (av := []) 33 (i := 3) (by decide) mt_yJ_len mv_yJ_len wd_559 (by decide) dX9_spells_30 rfl rfl rfl (Nat.le_of_ble_eq_true rfl) (jroom (by decide)) rfl (c_strlen (i := 3) (z := 5) (by decide) (by decide) ?_)
                dsimp only [jpush]
                refine e_icmp_ge 36 63 dX9_spells_33 (by decide) (by decide) (by decide) rfl (fun _ => ?_) (fun h => absurd h (by decide))
                refine e_iconst 64 dX9_spells_63 rfl ?_
                refine e_zret dX9_spells_64 (by decide) ?_
                first
                  | (exfalso; omega)
                  | (exact h1 (by
                       have hk := kw_3.mpr (show isW3 (M 931) s.1 s.2.1 by omega)
                       omega))
              · skip
                refine e_iconst 56 dX9_spells_55 rfl ?_
                refine e_zret dX9_spells_56 (by decide) ?_
                first
                  | (exfalso; omega)
                  | (exact h0 (fun q => by
                       have hk := kw_3.mp (show kx0 (M 931) s.1 s.2.1 = 3 by omega)
                       omega))
            · skip
              refine e_iconst 56 dX9_spells_55 rfl ?_
              refine e_zret dX9_spells_56 (by decide) ?_
              first
                | (exfalso; omega)
                | (exact h0 (fun q => by
                     have hk := kw_3.mp (show kx0 (M 931) s.1 s.2.1 = 3 by omega)
                     omega))
          · skip
            refine e_iconst 56 dX9_spells_55 rfl ?_
            refine e_zret dX9_spells_56 (by decide) ?_
            first
              | (exfalso; omega)
              | (exact h0 (fun q => by
                   have hk := kw_3.mp (show kx0 (M 931) s.1 s.2.1 = 3 by omega)
                   omega))
        · skip
          refine e_iconst 56 dX9_spells_55 rfl ?_
          refine e_zret dX9_spells_56 (by decide) ?_
          first
            | (exfalso; omega)
            | (exact h0 (fun q => by
                 have hk := kw_3.mp (show kx0 (M 931) s.1 s.2.1 = 3 by omega)
                 omega))
      · skip
        refine e_iconst 56 dX9_spells_55 rfl ?_
        refine e_zret dX9_spells_56 (by decide) ?_
        first
          | (exfalso; omega)
          | (exact h0 (fun q => by
               have hk := kw_3.mp (show kx0 (M 931) s.1 s.2.1 = 3 by omega)
               omega))
    · skip
      refine e_iconst 25 dX9_spells_24 rfl ?_
      refine e_zret dX9_spells_25 (by decide) ?_
      first
        | (exfalso; omega)
        | (exact h0 (fun q => by
             have hk := kw_3.mp (show kx0 (M 931) s.1 s.2.1 = 3 by omega)
             omega))

theorem c_spells_4 {M Z : jM} {n : Int} {Q : Int → jM → Prop} (hM : CM M n) {s : PS} (hZ : CTk M Z n s) (hI : PI n s) (h1 : s.2.2.1 = 4 → Q 1 Z) (h0 : s.2.2.1 ≠ 4 → Q 0 Z) : jCt yX9_spells cX9_spells 3 (some .boolean) 5 [jR 883, jF 10] Z Q := by
  refine jCt_of mt_yX9_spells (Nat.le_of_ble_eq_true rfl) (fun X => ?_)
  have e3 := hZ.2.2.2.1.1
  have e5 := hZ.2.2.2.1.2.1
  have eT := hZ.2.2.2.1.2.2
  have hi1 := hI.1
  have hi2 := hI.2.1
  have hn0 := hM.1
  have e84 : Z 884 = M 884 := hZ.1 884 (by omega)
  refine e_aload_n (i := 0) 1 dX9_spells_0 rfl rfl rfl ?_
  refine e_geti (j := 4) 4 fl_9_40 dX9_spells_1 at_883 (by decide) rfl rfl (fun r1 => ?_)
  refine e_iconst 5 dX9_spells_4 rfl ?_
  refine e_icmp_ne 8 24 dX9_spells_5 (by omega) (by decide) (by decide) rfl (fun b5 => ?_) (fun b5 => ?_)
  · skip
    refine e_iconst 25 dX9_spells_24 rfl ?_
    refine e_zret dX9_spells_25 (by decide) ?_
    first
      | (exfalso; omega)
      | (exact h0 (fun q => by
           have hk := kw_4.mp (show kx0 (M 931) s.1 s.2.1 = 4 by omega)
           omega))
  · skip
    refine e_aload_n (i := 0) 9 dX9_spells_8 rfl rfl rfl ?_
    refine e_geti (j := 3) 12 fl_9_28 dX9_spells_9 at_883 (by decide) rfl rfl (fun r9 => ?_)
    refine e_aload_n (i := 0) 13 dX9_spells_12 rfl rfl rfl ?_
    refine e_geti (j := 5) 16 fl_9_34 dX9_spells_13 at_883 (by decide) rfl rfl (fun r13 => ?_)
    refine e_isub 17 dX9_spells_16 rfl ?_
    refine e_aloadF_n (i := 1) 18 dX9_spells_17 rfl rfl rfl ?_
    refine e_callF (av := []) 21 (i := 4) (by decide) mt_yJ_len mv_yJ_len wd_559 (by decide) dX9_spells_18 rfl rfl rfl (Nat.le_of_ble_eq_true rfl) (jroom (by decide)) rfl (c_strlen (i := 4) (z := 6) (by decide) (by decide) ?_)
    dsimp only [jpush]
    refine e_icmp_eq 24 26 dX9_spells_21 (by omega) (by decide) (by decide) rfl (fun b21 => ?_) (fun b21 => ?_)
    · skip
      have y0 := hM.2 (s.1) (by omega) (by omega)
      have z0 := w8_c y0.1
      have x0 := y0.2
      have y1 := hM.2 (s.1 + 1) (by omega) (by omega)
      have z1 := w8_c y1.1
      have x1 := y1.2
      have y2 := hM.2 (s.1 + 2) (by omega) (by omega)
      have z2 := w8_c y2.1
      have x2 := y2.2
      have y3 := hM.2 (s.1 + 3) (by omega) (by omega)
      have z3 := w8_c y3.1
      have x3 := y3.2
      have y4 := hM.2 (s.1 + 4) (by omega) (by omega)
      have z4 := w8_c y4.1
      have x4 := y4.2
      have y5 := hM.2 (s.1 + 5) (by omega) (by omega)
      have z5 := w8_c y5.1
      have x5 := y5.2
      refine e_iconst 27 dX9_spells_26 rfl ?_
      refine e_istore_n (i := 2) (lsn := [(2, _), (0, _), (1, _)]) 28 dX9_spells_27 rfl (by decide) rfl rfl ?_
      refine e_iload_n (i := 2) 29 dX9_spells_28 rfl rfl rfl ?_
      refine e_aloadF_n (i := 1) 30 dX9_spells_29 rfl rfl rfl ?_
      refine e_callF (av := []) 33 (i := 4) (by decide) mt_yJ_len mv_yJ_len wd_559 (by decide) dX9_spells_30 rfl rfl rfl (Nat.le_of_ble_eq_true rfl) (jroom (by decide)) rfl (c_strlen (i := 4) (z := 6) (by decide) (by decide) ?_)
      dsimp only [jpush]
      refine e_icmp_ge 36 63 dX9_spells_33 (by decide) (by decide) (by decide) rfl (fun h => absurd h (by decide)) (fun _ => ?_)
      refine e_aload_n (i := 0) 37 dX9_spells_36 rfl rfl rfl ?_
      refine e_getr (j := 0) 40 fl_9_9 dX9_spells_37 at_883 rfl rfl tp_883_0 rfl ?_
      refine e_aload_n (i := 0) 41 dX9_spells_40 rfl rfl rfl ?_
      refine e_geti (j := 5) 44 fl_9_34 dX9_spells_41 at_883 (by decide) rfl rfl (fun r41 => ?_)
      refine e_iload_n (i := 2) 45 dX9_spells_44 rfl rfl rfl ?_
      refine e_iadd 46 dX9_spells_45 rfl ?_
      refine e_bald 47 dX9_spells_46 ar_884 (by omega) (by omega) rfl (fun r46 => ?_)
      simp only [e5, e84, Int.reduceAdd, Int.add_zero] at r46 ⊢
      refine e_aloadF_n (i := 1) 48 dX9_spells_47 rfl rfl rfl ?_
      refine e_iload_n (i := 2) 49 dX9_spells_48 rfl rfl rfl ?_
      refine e_callF (av := [jI _]) 52 (i := 4) (by decide) mt_yJ_charAt mv_yJ_charAt wd_569 (by decide) dX9_spells_49 rfl rfl rfl (Nat.le_of_ble_eq_true rfl) (jroom (by decide)) rfl (c_charAt (i := 4) (k := 0) (z := 116) (by decide) (by decide) (by decide +kernel) ?_)
      dsimp only [jpush]
      refine e_icmp_eq 55 57 dX9_spells_52 (by omega) (by decide) (by decide) rfl (fun b52 => ?_) (fun b52 => ?_)
      · skip
        refine e_iinc (lsn := [(2, _), (0, _), (1, _)]) 60 dX9_spells_57 rfl (by decide) rfl rfl ?_
        refine e_goto 28 dX9_spells_60 (by decide) ?_
        refine e_iload_n (i := 2) 29 dX9_spells_28 rfl rfl rfl ?_
        refine e_aloadF_n (i := 1) 30 dX9_spells_29 rfl rfl rfl ?_
        refine e_callF (av := []) 33 (i := 4) (by decide) mt_yJ_len mv_yJ_len wd_559 (by decide) dX9_spells_30 rfl rfl rfl (Nat.le_of_ble_eq_true rfl) (jroom (by decide)) rfl (c_strlen (i := 4) (z := 6) (by decide) (by decide) ?_)
        dsimp only [jpush]
        refine e_icmp_ge 36 63 dX9_spells_33 (by decide) (by decide) (by decide) rfl (fun h => absurd h (by decide)) (fun _ => ?_)
        refine e_aload_n (i := 0) 37 dX9_spells_36 rfl rfl rfl ?_
        refine e_getr (j := 0) 40 fl_9_9 dX9_spells_37 at_883 rfl rfl tp_883_0 rfl ?_
        refine e_aload_n (i := 0) 41 dX9_spells_40 rfl rfl rfl ?_
        refine e_geti (j := 5) 44 fl_9_34 dX9_spells_41 at_883 (by decide) rfl rfl (fun r41 => ?_)
        refine e_iload_n (i := 2) 45 dX9_spells_44 rfl rfl rfl ?_
        refine e_iadd 46 dX9_spells_45 rfl ?_
        refine e_bald 47 dX9_spells_46 ar_884 (by omega) (by omega) rfl (fun r46 => ?_)
        simp only [e5, e84, Int.reduceAdd, Int.add_zero] at r46 ⊢
        refine e_aloadF_n (i := 1) 48 dX9_spells_47 rfl rfl rfl ?_
        refine e_iload_n (i := 2) 49 dX9_spells_48 rfl rfl rfl ?_
        refine e_callF (av := [jI _]) 52 (i := 4) (by decide) mt_yJ_charAt mv_yJ_charAt wd_569 (by decide) dX9_spells_49 rfl rfl rfl (Nat.le_of_ble_eq_true rfl) (jroom (by decide)) rfl (c_charAt (i := 4) (k := 1) (z := 105) (by decide) (by decide) (by decide +kernel) ?_)
        dsimp only [jpush]
        refine e_icmp_eq 55 57 dX9_spells_52 (by omega) (by decide) (by decide) rfl (fun b52 => ?_) (fun b52 => ?_)
        · skip
          refine e_iinc (lsn := [(2, _), (0, _), (1, _)]) 60 dX9_spells_57 rfl (by decide) rfl rfl ?_
          refine e_goto 28 dX9_spells_60 (by decide) ?_
          refine e_iload_n (i := 2) 29 dX9_spells_28 rfl rfl rfl ?_
          refine e_aloadF_n (i := 1) 30 dX9_spells_29 rfl rfl rfl ?_
          refine e_callF (av := []) 33 (i := 4) (by decide) mt_yJ_len mv_yJ_len wd_559 (by decide) dX9_spells_30 rfl rfl rfl (Nat.le_of_ble_eq_true rfl) (jroom (by decide)) rfl (c_strlen (i := 4) (z := 6) (by decide) (by decide) ?_)
          dsimp only [jpush]
          refine e_icmp_ge 36 63 dX9_spells_33 (by decide) (by decide) (by decide) rfl (fun h => absurd h (by decide)) (fun _ => ?_)
          refine e_aload_n (i := 0) 37 dX9_spells_36 rfl rfl rfl ?_
          refine e_getr (j := 0) 40 fl_9_9 dX9_spells_37 at_883 rfl rfl tp_883_0 rfl ?_
          refine e_aload_n (i := 0) 41 dX9_spells_40 rfl rfl rfl ?_
          refine e_geti (j := 5) 44 fl_9_34 dX9_spells_41 at_883 (by decide) rfl rfl (fun r41 => ?_)
          refine e_iload_n (i := 2) 45 dX9_spells_44 rfl rfl rfl ?_
          refine e_iadd 46 dX9_spells_45 rfl ?_
          refine e_bald 47 dX9_spells_46 ar_884 (by omega) (by omega) rfl (fun r46 => ?_)
          simp only [e5, e84, Int.reduceAdd, Int.add_zero] at r46 ⊢
          refine e_aloadF_n (i := 1) 48 dX9_spells_47 rfl rfl rfl ?_
          refine e_iload_n (i := 2) 49 dX9_spells_48 rfl rfl rfl ?_
          refine e_callF (av := [jI _]) 52 (i := 4) (by decide) mt_yJ_charAt mv_yJ_charAt wd_569 (by decide) dX9_spells_49 rfl rfl rfl (Nat.le_of_ble_eq_true rfl) (jroom (by decide)) rfl (c_charAt (i := 4) (k := 2) (z := 99) (by decide) (by decide) (by decide +kernel) ?_)
          dsimp only [jpush]
          refine e_icmp_eq 55 57 dX9_spells_52 (by omega) (by decide) (by decide) rfl (fun b52 => ?_) (fun b52 => ?_)
          · skip
            refine e_iinc (lsn := [(2, _), (0, _), (1, _)]) 60 dX9_spells_57 rfl (by decide) rfl rfl ?_
            refine e_goto 28 dX9_spells_60 (by decide) ?_
            refine e_iload_n (i := 2) 29 dX9_spells_28 rfl rfl rfl ?_
            refine e_aloadF_n (i := 1) 30 dX9_spells_29 rfl rfl rfl ?_
            refine e_callF (av := []) 33 (i := 4) (by decide) mt_yJ_len mv_yJ_len wd_559 (by decide) dX9_spells_30 rfl rfl rfl (Nat.le_of_ble_eq_true rfl) (jroom (by decide)) rfl (c_strlen (i := 4) (z := 6) (by decide) (by decide) ?_)
            dsimp only [jpush]
            refine e_icmp_ge 36 63 dX9_spells_33 (by decide) (by decide) (by decide) rfl (fun h => absurd h (by decide)) (fun _ => ?_)
            refine e_aload_n (i := 0) 37 dX9_spells_36 rfl rfl rfl ?_
            refine e_getr (j := 0) 40 fl_9_9 dX9_spells_37 at_883 rfl rfl tp_883_0 rfl ?_
            refine e_aload_n (i := 0) 41 dX9_spells_40 rfl rfl rfl ?_
            refine e_geti (j := 5) 44 fl_9_34 dX9_spells_41 at_883 (by decide) rfl rfl (fun r41 => ?_)
            refine e_iload_n (i := 2) 45 dX9_spells_44 rfl rfl rfl ?_
            refine e_iadd 46 dX9_spells_45 rfl ?_
            refine e_bald 47 dX9_spells_46 ar_884 (by omega) (by omega) rfl (fun r46 => ?_)
            simp only [e5, e84, Int.reduceAdd, Int.add_zero] at r46 ⊢
            refine e_aloadF_n (i := 1) 48 dX9_spells_47 rfl rfl rfl ?_
            refine e_iload_n (i := 2) 49 dX9_spells_48 rfl rfl rfl ?_
            refine e_callF (av := [jI _]) 52 (i := 4) (by decide) mt_yJ_charAt mv_yJ_charAt wd_569 (by decide) dX9_spells_49 rfl rfl rfl (Nat.le_of_ble_eq_true rfl) (jroom (by decide)) rfl (c_charAt (i := 4) (k := 3) (z := 107) (by decide) (by decide) (by decide +kernel) ?_)
            dsimp only [jpush]
            refine e_icmp_eq 55 57 dX9_spells_52 (by omega) (by decide) (by decide) rfl (fun b52 => ?_) (fun b52 => ?_)
            · skip
              refine e_iinc (lsn := [(2, _), (0, _), (1, _)]) 60 dX9_spells_57 rfl (by decide) rfl rfl ?_
              refine e_goto 28 dX9_spells_60 (by decide) ?_
              refine e_iload_n (i := 2) 29 dX9_spells_28 rfl rfl rfl ?_
              refine e_aloadF_n (i := 1) 30 dX9_spells_29 rfl rfl rfl ?_
              refine e_callF (av := []) 33 (i := 4) (by decide) mt_yJ_len mv_yJ_len wd_559 (by decide) dX9_spells_30 rfl rfl rfl (Nat.le_of_ble_eq_true rfl) (jroom (by decide)) rfl (c_strlen (i := 4) (z := 6) (by decide) (by decide) ?_)
              dsimp only [jpush]
              refine e_icmp_ge 36 63 dX9_spells_33 (by decide) (by decide) (by decide) rfl (fun h => absurd h (by decide)) (fun _ => ?_)
              refine e_aload_n (i := 0) 37 dX9_spells_36 rfl rfl rfl ?_
              refine e_getr (j := 0) 40 fl_9_9 dX9_spells_37 at_883 rfl rfl tp_883_0 rfl ?_
              refine e_aload_n (i := 0) 41 dX9_spells_40 rfl rfl rfl ?_
              refine e_geti (j := 5) 44 fl_9_34 dX9_spells_41 at_883 (by decide) rfl rfl (fun r41 => ?_)
              refine e_iload_n (i := 2) 45 dX9_spells_44 rfl rfl rfl ?_
              refine e_iadd 46 dX9_spells_45 rfl ?_
              refine e_bald 47 dX9_spells_46 ar_884 (by omega) (by omega) rfl (fun r46 => ?_)
              simp only [e5, e84, Int.reduceAdd, Int.add_zero] at r46 ⊢
              refine e_aloadF_n (i := 1) 48 dX9_spells_47 rfl rfl rfl ?_
              refine e_iload_n (i := 2) 49 dX9_spells_48 rfl rfl rfl ?_
              refine e_callF (av := [jI _]) 52 (i := 4) (by decide) mt_yJ_charAt mv_yJ_charAt wd_569 (by decide) dX9_spells_49 rfl rfl rfl (Nat.le_of_ble_eq_true rfl) (jroom (by decide)) rfl (c_charAt (i := 4) (k := 4) (z := 101) (by decide) (by decide) (by decide +kernel) ?_)
              dsimp only [jpush]
              refine e_icmp_eq 55 57 dX9_spells_52 (by omega) (by decide) (by decide) rfl (fun b52 => ?_) (fun b52 => ?_)
              · skip
                refine e_iinc (lsn := [(2, _), (0, _), (1, _)]) 60 dX9_spells_57 rfl (by decide) rfl rfl ?_
                refine e_goto 28 dX9_spells_60 (by decide) ?_
                refine e_iload_n (i := 2) 29 dX9_spells_28 rfl rfl rfl ?_
                refine e_aloadF_n (i := 1) 30 dX9_spells_29 rfl rfl rfl ?_
                refine e_callF (av := []) 33 (i := 4) (by decide) mt_yJ_len mv_yJ_len wd_559 (by decide) dX9_spells_30 rfl rfl rfl (Nat.le_of_ble_eq_true rfl) (jroom (by decide)) rfl (c_strlen (i := 4) (z := 6) (by decide) (by decide) ?_)
                dsimp only [jpush]
                refine e_icmp_ge 36 63 dX9_spells_33 (by decide) (by decide) (by decide) rfl (fun h => absurd h (by decide)) (fun _ => ?_)
                refine e_aload_n (i := 0) 37 dX9_spells_36 rfl rfl rfl ?_
                refine e_getr (j := 0) 40 fl_9_9 dX9_spells_37 at_883 rfl rfl tp_883_0 rfl ?_
                refine e_aload_n (i := 0) 41 dX9_spells_40 rfl rfl rfl ?_
                refine e_geti (j := 5) 44 fl_9_34 dX9_spells_41 at_883 (by decide) rfl rfl (fun r41 => ?_)
                refine e_iload_n (i := 2) 45 dX9_spells_44 rfl rfl rfl ?_
                refine e_iadd 46 dX9_spells_45 rfl ?_
                refine e_bald 47 dX9_spells_46 ar_884 (by omega) (by omega) rfl (fun r46 => ?_)
                simp only [e5, e84, Int.reduceAdd, Int.add_zero] at r46 ⊢
                refine e_aloadF_n (i := 1) 48 dX9_spells_47 rfl rfl rfl ?_
                refine e_iload_n (i := 2) 49 dX9_spells_48 rfl rfl rfl ?_
                refine e_callF (av := [jI _]) 52 (i := 4) (by decide) mt_yJ_charAt mv_yJ_charAt wd_569 (by decide) dX9_spells_49 rfl rfl rfl (Nat.le_of_ble_eq_true rfl) (jroom (by decide)) rfl (c_charAt (i := 4) (k := 5) (z := 116) (by decide) (by decide) (by decide +kernel) ?_)
                dsimp only [jpush]
                refine e_icmp_eq 55 57 dX9_spells_52 (by omega) (by decide) (by decide) rfl (fun b52 => ?_) (fun b52 => ?_)
                · skip
                  refine e_iinc (lsn := [(2, _), (0, _), (1, _)]) 60 dX9_spells_57 rfl (by decide) rfl rfl ?_
                  refine e_goto 28 dX9_spells_60 (by decide) ?_
                  refine e_iload_n (i := 2) 29 dX9_spells_28 rfl rfl rfl ?_
                  refine e_aloadF_n (i := 1) 30 dX9_spells_29 rfl rfl rfl ?_
                  refine e_callF (av := []) 33 (i := 4) (by decide) mt_yJ_len mv_yJ_len wd_559 (by decide) dX9_spells_30 rfl rfl rfl (Nat.le_of_ble_eq_true rfl) (jroom (by decide)) rfl (c_strlen (i := 4) (z := 6) (by decide) (by decide) ?_)
                  dsimp only [jpush]
                  refine e_icmp_ge 36 63 dX9_spells_33 (by decide) (by decide) (by decide) rfl (fun _ => ?_) (fun h => absurd h (by decide))
                  refine e_iconst 64 dX9_spells_63 rfl ?_
                  refine e_zret dX9_spells_64 (by decide) ?_
                  first
                    | (exfalso; omega)
                    | (exact h1 (by
                         have hk := kw_4.mpr (show isW4 (M 931) s.1 s.2.1 by omega)
                         omega))
                · skip
                  refine e_iconst 56 dX9_spells_55 rfl ?_
                  refine e_zret dX9_spells_56 (by decide) ?_
                  first
                    | (exfalso; omega)
                    | (exact h0 (fun q => by
                         have hk := kw_4.mp (show kx0 (M 931) s.1 s.2.1 = 4 by omega)
                         omega))
              · skip
                refine e_iconst 56 dX9_spells_55 rfl ?_
                refine e_zret dX9_spells_56 (by decide) ?_
                first
                  | (exfalso; omega)
                  | (exact h0 (fun q => by
                       have hk := kw_4.mp (show kx0 (M 931) s.1 s.2.1 = 4 by omega)
                       omega))
            · skip
              refine e_iconst 56 dX9_spells_55 rfl ?_
              refine e_zret dX9_spells_56 (by decide) ?_
              first
                | (exfalso; omega)
                | (exact h0 (fun q => by
                     have hk := kw_4.mp (show kx0 (M 931) s.1 s.2.1 = 4 by omega)
                     omega))
          · skip
            refine e_iconst 56 dX9_spells_55 rfl ?_
            refine e_zret dX9_spells_56 (by decide) ?_
            first
              | (exfalso; omega)
              | (exact h0 (fun q => by
                   have hk := kw_4.mp (show kx0 (M 931) s.1 s.2.1 = 4 by omega)
                   omega))
        · skip
          refine e_iconst 56 dX9_spells_55 rfl ?_
          refine e_zret dX9_spells_56 (by decide) ?_
          first
            | (exfalso; omega)
            | (exact h0 (fun q => by
                 have hk := kw_4.mp (show kx0 (M 931) s.1 s.2.1 = 4 by omega)
                 omega))
      · skip
        refine e_iconst 56 dX9_spells_55 rfl ?_
        refine e_zret dX9_spells_56 (by decide) ?_
        first
          | (exfalso; omega)
          | (exact h0 (fun q => by
               have hk := kw_4.mp (show kx0 (M 931) s.1 s.2.1 = 4 by omega)
               omega))
    · skip
      refine e_iconst 25 dX9_spells_24 rfl ?_
      refine e_zret dX9_spells_25 (by decide) ?_
      first
        | (exfalso; omega)
        | (exact h0 (fun q => by
             have hk := kw_4.mp (show kx0 (M 931) s.1 s.2.1 = 4 by omega)
             omega))

theorem c_spells_5 {M Z : jM} {n : Int} {Q : Int → jM → Prop} (hM : CM M n) {s : PS} (hZ : CTk M Z n s) (hI : PI n s) (h1 : s.2.2.1 = 5 → Q 1 Z) (h0 : s.2.2.1 ≠ 5 → Q 0 Z) : jCt yX9_spells cX9_spells 3 (some .boolean) 5 [jR 883, jF 11] Z Q := by
  refine jCt_of mt_yX9_spells (Nat.le_of_ble_eq_true rfl) (fun X => ?_)
  have e3 := hZ.2.2.2.1.1
  have e5 := hZ.2.2.2.1.2.1
  have eT := hZ.2.2.2.1.2.2
  have hi1 := hI.1
  have hi2 := hI.2.1
  have hn0 := hM.1
  have e84 : Z 884 = M 884 := hZ.1 884 (by omega)
  refine e_aload_n (i := 0) 1 dX9_spells_0 rfl rfl rfl ?_
  refine e_geti (j := 4) 4 fl_9_40 dX9_spells_1 at_883 (by decide) rfl rfl (fun r1 => ?_)
  refine e_iconst 5 dX9_spells_4 rfl ?_
  refine e_icmp_ne 8 24 dX9_spells_5 (by omega) (by decide) (by decide) rfl (fun b5 => ?_) (fun b5 => ?_)
  · skip
    refine e_iconst 25 dX9_spells_24 rfl ?_
    refine e_zret dX9_spells_25 (by decide) ?_
    first
      | (exfalso; omega)
      | (exact h0 (fun q => by
           have hk := kw_5.mp (show kx0 (M 931) s.1 s.2.1 = 5 by omega)
           omega))
  · skip
    refine e_aload_n (i := 0) 9 dX9_spells_8 rfl rfl rfl ?_
    refine e_geti (j := 3) 12 fl_9_28 dX9_spells_9 at_883 (by decide) rfl rfl (fun r9 => ?_)
    refine e_aload_n (i := 0) 13 dX9_spells_12 rfl rfl rfl ?_
    refine e_geti (j := 5) 16 fl_9_34 dX9_spells_13 at_883 (by decide) rfl rfl (fun r13 => ?_)
    refine e_isub 17 dX9_spells_16 rfl ?_
    refine e_aloadF_n (i := 1) 18 dX9_spells_17 rfl rfl rfl ?_
    refine e_callF (av := []) 21 (i := 5) (by decide) mt_yJ_len mv_yJ_len wd_559 (by decide) dX9_spells_18 rfl rfl rfl (Nat.le_of_ble_eq_true rfl) (jroom (by decide)) rfl (c_strlen (i := 5) (z := 5) (by decide) (by decide) ?_)
    dsimp only [jpush]
    refine e_icmp_eq 24 26 dX9_spells_21 (by omega) (by decide) (by decide) rfl (fun b21 => ?_) (fun b21 => ?_)
    · skip
      have y0 := hM.2 (s.1) (by omega) (by omega)
      have z0 := w8_c y0.1
      have x0 := y0.2
      have y1 := hM.2 (s.1 + 1) (by omega) (by omega)
      have z1 := w8_c y1.1
      have x1 := y1.2
      have y2 := hM.2 (s.1 + 2) (by omega) (by omega)
      have z2 := w8_c y2.1
      have x2 := y2.2
      have y3 := hM.2 (s.1 + 3) (by omega) (by omega)
      have z3 := w8_c y3.1
      have x3 := y3.2
      have y4 := hM.2 (s.1 + 4) (by omega) (by omega)
      have z4 := w8_c y4.1
      have x4 := y4.2
      refine e_iconst 27 dX9_spells_26 rfl ?_
      refine e_istore_n (i := 2) (lsn := [(2, _), (0, _), (1, _)]) 28 dX9_spells_27 rfl (by decide) rfl rfl ?_
      refine e_iload_n (i := 2) 29 dX9_spells_28 rfl rfl rfl ?_
      refine e_aloadF_n (i := 1) 30 dX9_spells_29 rfl rfl rfl ?_
      refine e_callF (av := []) 33 (i := 5) (by decide) mt_yJ_len mv_yJ_len wd_559 (by decide) dX9_spells_30 rfl rfl rfl (Nat.le_of_ble_eq_true rfl) (jroom (by decide)) rfl (c_strlen (i := 5) (z := 5) (by decide) (by decide) ?_)
      dsimp only [jpush]
      refine e_icmp_ge 36 63 dX9_spells_33 (by decide) (by decide) (by decide) rfl (fun h => absurd h (by decide)) (fun _ => ?_)
      refine e_aload_n (i := 0) 37 dX9_spells_36 rfl rfl rfl ?_
      refine e_getr (j := 0) 40 fl_9_9 dX9_spells_37 at_883 rfl rfl tp_883_0 rfl ?_
      refine e_aload_n (i := 0) 41 dX9_spells_40 rfl rfl rfl ?_
      refine e_geti (j := 5) 44 fl_9_34 dX9_spells_41 at_883 (by decide) rfl rfl (fun r41 => ?_)
      refine e_iload_n (i := 2) 45 dX9_spells_44 rfl rfl rfl ?_
      refine e_iadd 46 dX9_spells_45 rfl ?_
      refine e_bald 47 dX9_spells_46 ar_884 (by omega) (by omega) rfl (fun r46 => ?_)
      simp only [e5, e84, Int.reduceAdd, Int.add_zero] at r46 ⊢
      refine e_aloadF_n (i := 1) 48 dX9_spells_47 rfl rfl rfl ?_
      refine e_iload_n (i := 2) 49 dX9_spells_48 rfl rfl rfl ?_
      refine e_callF (av := [jI _]) 52 (i := 5) (by decide) mt_yJ_charAt mv_yJ_charAt wd_569 (by decide) dX9_spells_49 rfl rfl rfl (Nat.le_of_ble_eq_true rfl) (jroom (by decide)) rfl (c_charAt (i := 5) (k := 0) (z := 115) (by decide) (by decide) (by decide +kernel) ?_)
      dsimp only [jpush]
      refine e_icmp_eq 55 57 dX9_spells_52 (by omega) (by decide) (by decide) rfl (fun b52 => ?_) (fun b52 => ?_)
      · skip
        refine e_iinc (lsn := [(2, _), (0, _), (1, _)]) 60 dX9_spells_57 rfl (by decide) rfl rfl ?_
        refine e_goto 28 dX9_spells_60 (by decide) ?_
        refine e_iload_n (i := 2) 29 dX9_spells_28 rfl rfl rfl ?_
        refine e_aloadF_n (i := 1) 30 dX9_spells_29 rfl rfl rfl ?_
        refine e_callF (av := []) 33 (i := 5) (by decide) mt_yJ_len mv_yJ_len wd_559 (by decide) dX9_spells_30 rfl rfl rfl (Nat.le_of_ble_eq_true rfl) (jroom (by decide)) rfl (c_strlen (i := 5) (z := 5) (by decide) (by decide) ?_)
        dsimp only [jpush]
        refine e_icmp_ge 36 63 dX9_spells_33 (by decide) (by decide) (by decide) rfl (fun h => absurd h (by decide)) (fun _ => ?_)
        refine e_aload_n (i := 0) 37 dX9_spells_36 rfl rfl rfl ?_
        refine e_getr (j := 0) 40 fl_9_9 dX9_spells_37 at_883 rfl rfl tp_883_0 rfl ?_
        refine e_aload_n (i := 0) 41 dX9_spells_40 rfl rfl rfl ?_
        refine e_geti (j := 5) 44 fl_9_34 dX9_spells_41 at_883 (by decide) rfl rfl (fun r41 => ?_)
        refine e_iload_n (i := 2) 45 dX9_spells_44 rfl rfl rfl ?_
        refine e_iadd 46 dX9_spells_45 rfl ?_
        refine e_bald 47 dX9_spells_46 ar_884 (by omega) (by omega) rfl (fun r46 => ?_)
        simp only [e5, e84, Int.reduceAdd, Int.add_zero] at r46 ⊢
        refine e_aloadF_n (i := 1) 48 dX9_spells_47 rfl rfl rfl ?_
        refine e_iload_n (i := 2) 49 dX9_spells_48 rfl rfl rfl ?_
        refine e_callF (av := [jI _]) 52 (i := 5) (by decide) mt_yJ_charAt mv_yJ_charAt wd_569 (by decide) dX9_spells_49 rfl rfl rfl (Nat.le_of_ble_eq_true rfl) (jroom (by decide)) rfl (c_charAt (i := 5) (k := 1) (z := 119) (by decide) (by decide) (by decide +kernel) ?_)
        dsimp only [jpush]
        refine e_icmp_eq 55 57 dX9_spells_52 (by omega) (by decide) (by decide) rfl (fun b52 => ?_) (fun b52 => ?_)
        · skip
          refine e_iinc (lsn := [(2, _), (0, _), (1, _)]) 60 dX9_spells_57 rfl (by decide) rfl rfl ?_
          refine e_goto 28 dX9_spells_60 (by decide) ?_
          refine e_iload_n (i := 2) 29 dX9_spells_28 rfl rfl rfl ?_
          refine e_aloadF_n (i := 1) 30 dX9_spells_29 rfl rfl rfl ?_
          refine e_callF (av := []) 33 (i := 5) (by decide) mt_yJ_len mv_yJ_len wd_559 (by decide) dX9_spells_30 rfl rfl rfl (Nat.le_of_ble_eq_true rfl) (jroom (by decide)) rfl (c_strlen (i := 5) (z := 5) (by decide) (by decide) ?_)
          dsimp only [jpush]
          refine e_icmp_ge 36 63 dX9_spells_33 (by decide) (by decide) (by decide) rfl (fun h => absurd h (by decide)) (fun _ => ?_)
          refine e_aload_n (i := 0) 37 dX9_spells_36 rfl rfl rfl ?_
          refine e_getr (j := 0) 40 fl_9_9 dX9_spells_37 at_883 rfl rfl tp_883_0 rfl ?_
          refine e_aload_n (i := 0) 41 dX9_spells_40 rfl rfl rfl ?_
          refine e_geti (j := 5) 44 fl_9_34 dX9_spells_41 at_883 (by decide) rfl rfl (fun r41 => ?_)
          refine e_iload_n (i := 2) 45 dX9_spells_44 rfl rfl rfl ?_
          refine e_iadd 46 dX9_spells_45 rfl ?_
          refine e_bald 47 dX9_spells_46 ar_884 (by omega) (by omega) rfl (fun r46 => ?_)
          simp only [e5, e84, Int.reduceAdd, Int.add_zero] at r46 ⊢
          refine e_aloadF_n (i := 1) 48 dX9_spells_47 rfl rfl rfl ?_
          refine e_iload_n (i := 2) 49 dX9_spells_48 rfl rfl rfl ?_
          refine e_callF (av := [jI _]) 52 (i := 5) (by decide) mt_yJ_charAt mv_yJ_charAt wd_569 (by decide) dX9_spells_49 rfl rfl rfl (Nat.le_of_ble_eq_true rfl) (jroom (by decide)) rfl (c_charAt (i := 5) (k := 2) (z := 111) (by decide) (by decide) (by decide +kernel) ?_)
          dsimp only [jpush]
          refine e_icmp_eq 55 57 dX9_spells_52 (by omega) (by decide) (by decide) rfl (fun b52 => ?_) (fun b52 => ?_)
          · skip
            refine e_iinc (lsn := [(2, _), (0, _), (1, _)]) 60 dX9_spells_57 rfl (by decide) rfl rfl ?_
            refine e_goto 28 dX9_spells_60 (by decide) ?_
            refine e_iload_n (i := 2) 29 dX9_spells_28 rfl rfl rfl ?_
            refine e_aloadF_n (i := 1) 30 dX9_spells_29 rfl rfl rfl ?_
            refine e_callF (av := []) 33 (i := 5) (by decide) mt_yJ_len mv_yJ_len wd_559 (by decide) dX9_spells_30 rfl rfl rfl (Nat.le_of_ble_eq_true rfl) (jroom (by decide)) rfl (c_strlen (i := 5) (z := 5) (by decide) (by decide) ?_)
            dsimp only [jpush]
            refine e_icmp_ge 36 63 dX9_spells_33 (by decide) (by decide) (by decide) rfl (fun h => absurd h (by decide)) (fun _ => ?_)
            refine e_aload_n (i := 0) 37 dX9_spells_36 rfl rfl rfl ?_
            refine e_getr (j := 0) 40 fl_9_9 dX9_spells_37 at_883 rfl rfl tp_883_0 rfl ?_
            refine e_aload_n (i := 0) 41 dX9_spells_40 rfl rfl rfl ?_
            refine e_geti (j := 5) 44 fl_9_34 dX9_spells_41 at_883 (by decide) rfl rfl (fun r41 => ?_)
            refine e_iload_n (i := 2) 45 dX9_spells_44 rfl rfl rfl ?_
            refine e_iadd 46 dX9_spells_45 rfl ?_
            refine e_bald 47 dX9_spells_46 ar_884 (by omega) (by omega) rfl (fun r46 => ?_)
            simp only [e5, e84, Int.reduceAdd, Int.add_zero] at r46 ⊢
            refine e_aloadF_n (i := 1) 48 dX9_spells_47 rfl rfl rfl ?_
            refine e_iload_n (i := 2) 49 dX9_spells_48 rfl rfl rfl ?_
            refine e_callF (av := [jI _]) 52 (i := 5) (by decide) mt_yJ_charAt mv_yJ_charAt wd_569 (by decide) dX9_spells_49 rfl rfl rfl (Nat.le_of_ble_eq_true rfl) (jroom (by decide)) rfl (c_charAt (i := 5) (k := 3) (z := 114) (by decide) (by decide) (by decide +kernel) ?_)
            dsimp only [jpush]
            refine e_icmp_eq 55 57 dX9_spells_52 (by omega) (by decide) (by decide) rfl (fun b52 => ?_) (fun b52 => ?_)
            · skip
              refine e_iinc (lsn := [(2, _), (0, _), (1, _)]) 60 dX9_spells_57 rfl (by decide) rfl rfl ?_
              refine e_goto 28 dX9_spells_60 (by decide) ?_
              refine e_iload_n (i := 2) 29 dX9_spells_28 rfl rfl rfl ?_
              refine e_aloadF_n (i := 1) 30 dX9_spells_29 rfl rfl rfl ?_
              refine e_callF (av := []) 33 (i := 5) (by decide) mt_yJ_len mv_yJ_len wd_559 (by decide) dX9_spells_30 rfl rfl rfl (Nat.le_of_ble_eq_true rfl) (jroom (by decide)) rfl (c_strlen (i := 5) (z := 5) (by decide) (by decide) ?_)
              dsimp only [jpush]
              refine e_icmp_ge 36 63 dX9_spells_33 (by decide) (by decide) (by decide) rfl (fun h => absurd h (by decide)) (fun _ => ?_)
              refine e_aload_n (i := 0) 37 dX9_spells_36 rfl rfl rfl ?_
              refine e_getr (j := 0) 40 fl_9_9 dX9_spells_37 at_883 rfl rfl tp_883_0 rfl ?_
              refine e_aload_n (i := 0) 41 dX9_spells_40 rfl rfl rfl ?_
              refine e_geti (j := 5) 44 fl_9_34 dX9_spells_41 at_883 (by decide) rfl rfl (fun r41 => ?_)
              refine e_iload_n (i := 2) 45 dX9_spells_44 rfl rfl rfl ?_
              refine e_iadd 46 dX9_spells_45 rfl ?_
              refine e_bald 47 dX9_spells_46 ar_884 (by omega) (by omega) rfl (fun r46 => ?_)
              simp only [e5, e84, Int.reduceAdd, Int.add_zero] at r46 ⊢
              refine e_aloadF_n (i := 1) 48 dX9_spells_47 rfl rfl rfl ?_
              refine e_iload_n (i := 2) 49 dX9_spells_48 rfl rfl rfl ?_
              refine e_callF (av := [jI _]) 52 (i := 5) (by decide) mt_yJ_charAt mv_yJ_charAt wd_569 (by decide) dX9_spells_49 rfl rfl rfl (Nat.le_of_ble_eq_true rfl) (jroom (by decide)) rfl (c_charAt (i := 5) (k := 4) (z := 110) (by decide) (by decide) (by decide +kernel) ?_)
              dsimp only [jpush]
              refine e_icmp_eq 55 57 dX9_spells_52 (by omega) (by decide) (by decide) rfl (fun b52 => ?_) (fun b52 => ?_)
              · skip
                refine e_iinc (lsn := [(2, _), (0, _), (1, _)]) 60 dX9_spells_57 rfl (by decide) rfl rfl ?_
                refine e_goto 28 dX9_spells_60 (by decide) ?_
                refine e_iload_n (i := 2) 29 dX9_spells_28 rfl rfl rfl ?_
                refine e_aloadF_n (i := 1) 30 dX9_spells_29 rfl rfl rfl ?_
                refine e_callF (av := []) 33 (i := 5) (by decide) mt_yJ_len mv_yJ_len wd_559 (by decide) dX9_spells_30 rfl rfl rfl (Nat.le_of_ble_eq_true rfl) (jroom (by decide)) rfl (c_strlen (i := 5) (z := 5) (by decide) (by decide) ?_)
                dsimp only [jpush]
                refine e_icmp_ge 36 63 dX9_spells_33 (by decide) (by decide) (by decide) rfl (fun _ => ?_) (fun h => absurd h (by decide))
                refine e_iconst 64 dX9_spells_63 rfl ?_
                refine e_zret dX9_spells_64 (by decide) ?_
                first
                  | (exfalso; omega)
                  | (exact h1 (by
                       have hk := kw_5.mpr (show isW5 (M 931) s.1 s.2.1 by omega)
                       omega))
              · skip
                refine e_iconst 56 dX9_spells_55 rfl ?_
                refine e_zret dX9_spells_56 (by decide) ?_
                first
                  | (exfalso; omega)
                  | (exact h0 (fun q => by
                       have hk := kw_5.mp (show kx0 (M 931) s.1 s.2.1 = 5 by omega)
                       omega))
            · skip
              refine e_iconst 56 dX9_spells_55 rfl ?_
              refine e_zret dX9_spells_56 (by decide) ?_
              first
                | (exfalso; omega)
                | (exact h0 (fun q => by
                     have hk := kw_5.mp (show kx0 (M 931) s.1 s.2.1 = 5 by omega)
                     omega))
          · skip
            refine e_iconst 56 dX9_spells_55 rfl ?_
            refine e_zret dX9_spells_56 (by decide) ?_
            first
              | (exfalso; omega)
              | (exact h0 (fun q => by
                   have hk := kw_5.mp (show kx0 (M 931) s.1 s.2.1 = 5 by omega)
                   omega))
        · skip
          refine e_iconst 56 dX9_spells_55 rfl ?_
          refine e_zret dX9_spells_56 (by decide) ?_
          first
            | (exfalso; omega)
            | (exact h0 (fun q => by
                 have hk := kw_5.mp (show kx0 (M 931) s.1 s.2.1 = 5 by omega)
                 omega))
      · skip
        refine e_iconst 56 dX9_spells_55 rfl ?_
        refine e_zret dX9_spells_56 (by decide) ?_
        first
          | (exfalso; omega)
          | (exact h0 (fun q => by
               have hk := kw_5.mp (show kx0 (M 931) s.1 s.2.1 = 5 by omega)
               omega))
    · skip
      refine e_iconst 25 dX9_spells_24 rfl ?_
      refine e_zret dX9_spells_25 (by decide) ?_
      first
        | (exfalso; omega)
        | (exact h0 (fun q => by
             have hk := kw_5.mp (show kx0 (M 931) s.1 s.2.1 = 5 by omega)
             omega))

theorem c_spells_6 {M Z : jM} {n : Int} {Q : Int → jM → Prop} (hM : CM M n) {s : PS} (hZ : CTk M Z n s) (hI : PI n s) (h1 : s.2.2.1 = 6 → Q 1 Z) (h0 : s.2.2.1 ≠ 6 → Q 0 Z) : jCt yX9_spells cX9_spells 3 (some .boolean) 5 [jR 883, jF 12] Z Q := by
  refine jCt_of mt_yX9_spells (Nat.le_of_ble_eq_true rfl) (fun X => ?_)
  have e3 := hZ.2.2.2.1.1
  have e5 := hZ.2.2.2.1.2.1
  have eT := hZ.2.2.2.1.2.2
  have hi1 := hI.1
  have hi2 := hI.2.1
  have hn0 := hM.1
  have e84 : Z 884 = M 884 := hZ.1 884 (by omega)
  refine e_aload_n (i := 0) 1 dX9_spells_0 rfl rfl rfl ?_
  refine e_geti (j := 4) 4 fl_9_40 dX9_spells_1 at_883 (by decide) rfl rfl (fun r1 => ?_)
  refine e_iconst 5 dX9_spells_4 rfl ?_
  refine e_icmp_ne 8 24 dX9_spells_5 (by omega) (by decide) (by decide) rfl (fun b5 => ?_) (fun b5 => ?_)
  · skip
    refine e_iconst 25 dX9_spells_24 rfl ?_
    refine e_zret dX9_spells_25 (by decide) ?_
    first
      | (exfalso; omega)
      | (exact h0 (fun q => by
           have hk := kw_6.mp (show kx0 (M 931) s.1 s.2.1 = 6 by omega)
           omega))
  · skip
    refine e_aload_n (i := 0) 9 dX9_spells_8 rfl rfl rfl ?_
    refine e_geti (j := 3) 12 fl_9_28 dX9_spells_9 at_883 (by decide) rfl rfl (fun r9 => ?_)
    refine e_aload_n (i := 0) 13 dX9_spells_12 rfl rfl rfl ?_
    refine e_geti (j := 5) 16 fl_9_34 dX9_spells_13 at_883 (by decide) rfl rfl (fun r13 => ?_)
    refine e_isub 17 dX9_spells_16 rfl ?_
    refine e_aloadF_n (i := 1) 18 dX9_spells_17 rfl rfl rfl ?_
    refine e_callF (av := []) 21 (i := 6) (by decide) mt_yJ_len mv_yJ_len wd_559 (by decide) dX9_spells_18 rfl rfl rfl (Nat.le_of_ble_eq_true rfl) (jroom (by decide)) rfl (c_strlen (i := 6) (z := 4) (by decide) (by decide) ?_)
    dsimp only [jpush]
    refine e_icmp_eq 24 26 dX9_spells_21 (by omega) (by decide) (by decide) rfl (fun b21 => ?_) (fun b21 => ?_)
    · skip
      have y0 := hM.2 (s.1) (by omega) (by omega)
      have z0 := w8_c y0.1
      have x0 := y0.2
      have y1 := hM.2 (s.1 + 1) (by omega) (by omega)
      have z1 := w8_c y1.1
      have x1 := y1.2
      have y2 := hM.2 (s.1 + 2) (by omega) (by omega)
      have z2 := w8_c y2.1
      have x2 := y2.2
      have y3 := hM.2 (s.1 + 3) (by omega) (by omega)
      have z3 := w8_c y3.1
      have x3 := y3.2
      refine e_iconst 27 dX9_spells_26 rfl ?_
      refine e_istore_n (i := 2) (lsn := [(2, _), (0, _), (1, _)]) 28 dX9_spells_27 rfl (by decide) rfl rfl ?_
      refine e_iload_n (i := 2) 29 dX9_spells_28 rfl rfl rfl ?_
      refine e_aloadF_n (i := 1) 30 dX9_spells_29 rfl rfl rfl ?_
      refine e_callF (av := []) 33 (i := 6) (by decide) mt_yJ_len mv_yJ_len wd_559 (by decide) dX9_spells_30 rfl rfl rfl (Nat.le_of_ble_eq_true rfl) (jroom (by decide)) rfl (c_strlen (i := 6) (z := 4) (by decide) (by decide) ?_)
      dsimp only [jpush]
      refine e_icmp_ge 36 63 dX9_spells_33 (by decide) (by decide) (by decide) rfl (fun h => absurd h (by decide)) (fun _ => ?_)
      refine e_aload_n (i := 0) 37 dX9_spells_36 rfl rfl rfl ?_
      refine e_getr (j := 0) 40 fl_9_9 dX9_spells_37 at_883 rfl rfl tp_883_0 rfl ?_
      refine e_aload_n (i := 0) 41 dX9_spells_40 rfl rfl rfl ?_
      refine e_geti (j := 5) 44 fl_9_34 dX9_spells_41 at_883 (by decide) rfl rfl (fun r41 => ?_)
      refine e_iload_n (i := 2) 45 dX9_spells_44 rfl rfl rfl ?_
      refine e_iadd 46 dX9_spells_45 rfl ?_
      refine e_bald 47 dX9_spells_46 ar_884 (by omega) (by omega) rfl (fun r46 => ?_)
      simp only [e5, e84, Int.reduceAdd, Int.add_zero] at r46 ⊢
      refine e_aloadF_n (i := 1) 48 dX9_spells_47 rfl rfl rfl ?_
      refine e_iload_n (i := 2) 49 dX9_spells_48 rfl rfl rfl ?_
      refine e_callF (av := [jI _]) 52 (i := 6) (by decide) mt_yJ_charAt mv_yJ_charAt wd_569 (by decide) dX9_spells_49 rfl rfl rfl (Nat.le_of_ble_eq_true rfl) (jroom (by decide)) rfl (c_charAt (i := 6) (k := 0) (z := 121) (by decide) (by decide) (by decide +kernel) ?_)
      dsimp only [jpush]
      refine e_icmp_eq 55 57 dX9_spells_52 (by omega) (by decide) (by decide) rfl (fun b52 => ?_) (fun b52 => ?_)
      · skip
        refine e_iinc (lsn := [(2, _), (0, _), (1, _)]) 60 dX9_spells_57 rfl (by decide) rfl rfl ?_
        refine e_goto 28 dX9_spells_60 (by decide) ?_
        refine e_iload_n (i := 2) 29 dX9_spells_28 rfl rfl rfl ?_
        refine e_aloadF_n (i := 1) 30 dX9_spells_29 rfl rfl rfl ?_
        refine e_callF (av := []) 33 (i := 6) (by decide) mt_yJ_len mv_yJ_len wd_559 (by decide) dX9_spells_30 rfl rfl rfl (Nat.le_of_ble_eq_true rfl) (jroom (by decide)) rfl (c_strlen (i := 6) (z := 4) (by decide) (by decide) ?_)
        dsimp only [jpush]
        refine e_icmp_ge 36 63 dX9_spells_33 (by decide) (by decide) (by decide) rfl (fun h => absurd h (by decide)) (fun _ => ?_)
        refine e_aload_n (i := 0) 37 dX9_spells_36 rfl rfl rfl ?_
        refine e_getr (j := 0) 40 fl_9_9 dX9_spells_37 at_883 rfl rfl tp_883_0 rfl ?_
        refine e_aload_n (i := 0) 41 dX9_spells_40 rfl rfl rfl ?_
        refine e_geti (j := 5) 44 fl_9_34 dX9_spells_41 at_883 (by decide) rfl rfl (fun r41 => ?_)
        refine e_iload_n (i := 2) 45 dX9_spells_44 rfl rfl rfl ?_
        refine e_iadd 46 dX9_spells_45 rfl ?_
        refine e_bald 47 dX9_spells_46 ar_884 (by omega) (by omega) rfl (fun r46 => ?_)
        simp only [e5, e84, Int.reduceAdd, Int.add_zero] at r46 ⊢
        refine e_aloadF_n (i := 1) 48 dX9_spells_47 rfl rfl rfl ?_
        refine e_iload_n (i := 2) 49 dX9_spells_48 rfl rfl rfl ?_
        refine e_callF (av := [jI _]) 52 (i := 6) (by decide) mt_yJ_charAt mv_yJ_charAt wd_569 (by decide) dX9_spells_49 rfl rfl rfl (Nat.le_of_ble_eq_true rfl) (jroom (by decide)) rfl (c_charAt (i := 6) (k := 1) (z := 101) (by decide) (by decide) (by decide +kernel) ?_)
        dsimp only [jpush]
        refine e_icmp_eq 55 57 dX9_spells_52 (by omega) (by decide) (by decide) rfl (fun b52 => ?_) (fun b52 => ?_)
        · skip
          refine e_iinc (lsn := [(2, _), (0, _), (1, _)]) 60 dX9_spells_57 rfl (by decide) rfl rfl ?_
          refine e_goto 28 dX9_spells_60 (by decide) ?_
          refine e_iload_n (i := 2) 29 dX9_spells_28 rfl rfl rfl ?_
          refine e_aloadF_n (i := 1) 30 dX9_spells_29 rfl rfl rfl ?_
          refine e_callF (av := []) 33 (i := 6) (by decide) mt_yJ_len mv_yJ_len wd_559 (by decide) dX9_spells_30 rfl rfl rfl (Nat.le_of_ble_eq_true rfl) (jroom (by decide)) rfl (c_strlen (i := 6) (z := 4) (by decide) (by decide) ?_)
          dsimp only [jpush]
          refine e_icmp_ge 36 63 dX9_spells_33 (by decide) (by decide) (by decide) rfl (fun h => absurd h (by decide)) (fun _ => ?_)
          refine e_aload_n (i := 0) 37 dX9_spells_36 rfl rfl rfl ?_
          refine e_getr (j := 0) 40 fl_9_9 dX9_spells_37 at_883 rfl rfl tp_883_0 rfl ?_
          refine e_aload_n (i := 0) 41 dX9_spells_40 rfl rfl rfl ?_
          refine e_geti (j := 5) 44 fl_9_34 dX9_spells_41 at_883 (by decide) rfl rfl (fun r41 => ?_)
          refine e_iload_n (i := 2) 45 dX9_spells_44 rfl rfl rfl ?_
          refine e_iadd 46 dX9_spells_45 rfl ?_
          refine e_bald 47 dX9_spells_46 ar_884 (by omega) (by omega) rfl (fun r46 => ?_)
          simp only [e5, e84, Int.reduceAdd, Int.add_zero] at r46 ⊢
          refine e_aloadF_n (i := 1) 48 dX9_spells_47 rfl rfl rfl ?_
          refine e_iload_n (i := 2) 49 dX9_spells_48 rfl rfl rfl ?_
          refine e_callF (av := [jI _]) 52 (i := 6) (by decide) mt_yJ_charAt mv_yJ_charAt wd_569 (by decide) dX9_spells_49 rfl rfl rfl (Nat.le_of_ble_eq_true rfl) (jroom (by decide)) rfl (c_charAt (i := 6) (k := 2) (z := 97) (by decide) (by decide) (by decide +kernel) ?_)
          dsimp only [jpush]
          refine e_icmp_eq 55 57 dX9_spells_52 (by omega) (by decide) (by decide) rfl (fun b52 => ?_) (fun b52 => ?_)
          · skip
            refine e_iinc (lsn := [(2, _), (0, _), (1, _)]) 60 dX9_spells_57 rfl (by decide) rfl rfl ?_
            refine e_goto 28 dX9_spells_60 (by decide) ?_
            refine e_iload_n (i := 2) 29 dX9_spells_28 rfl rfl rfl ?_
            refine e_aloadF_n (i := 1) 30 dX9_spells_29 rfl rfl rfl ?_
            refine e_callF (av := []) 33 (i := 6) (by decide) mt_yJ_len mv_yJ_len wd_559 (by decide) dX9_spells_30 rfl rfl rfl (Nat.le_of_ble_eq_true rfl) (jroom (by decide)) rfl (c_strlen (i := 6) (z := 4) (by decide) (by decide) ?_)
            dsimp only [jpush]
            refine e_icmp_ge 36 63 dX9_spells_33 (by decide) (by decide) (by decide) rfl (fun h => absurd h (by decide)) (fun _ => ?_)
            refine e_aload_n (i := 0) 37 dX9_spells_36 rfl rfl rfl ?_
            refine e_getr (j := 0) 40 fl_9_9 dX9_spells_37 at_883 rfl rfl tp_883_0 rfl ?_
            refine e_aload_n (i := 0) 41 dX9_spells_40 rfl rfl rfl ?_
            refine e_geti (j := 5) 44 fl_9_34 dX9_spells_41 at_883 (by decide) rfl rfl (fun r41 => ?_)
            refine e_iload_n (i := 2) 45 dX9_spells_44 rfl rfl rfl ?_
            refine e_iadd 46 dX9_spells_45 rfl ?_
            refine e_bald 47 dX9_spells_46 ar_884 (by omega) (by omega) rfl (fun r46 => ?_)
            simp only [e5, e84, Int.reduceAdd, Int.add_zero] at r46 ⊢
            refine e_aloadF_n (i := 1) 48 dX9_spells_47 rfl rfl rfl ?_
            refine e_iload_n (i := 2) 49 dX9_spells_48 rfl rfl rfl ?_
            refine e_callF (av := [jI _]) 52 (i := 6) (by decide) mt_yJ_charAt mv_yJ_charAt wd_569 (by decide) dX9_spells_49 rfl rfl rfl (Nat.le_of_ble_eq_true rfl) (jroom (by decide)) rfl (c_charAt (i := 6) (k := 3) (z := 114) (by decide) (by decide) (by decide +kernel) ?_)
            dsimp only [jpush]
            refine e_icmp_eq 55 57 dX9_spells_52 (by omega) (by decide) (by decide) rfl (fun b52 => ?_) (fun b52 => ?_)
            · skip
              refine e_iinc (lsn := [(2, _), (0, _), (1, _)]) 60 dX9_spells_57 rfl (by decide) rfl rfl ?_
              refine e_goto 28 dX9_spells_60 (by decide) ?_
              refine e_iload_n (i := 2) 29 dX9_spells_28 rfl rfl rfl ?_
              refine e_aloadF_n (i := 1) 30 dX9_spells_29 rfl rfl rfl ?_
              refine e_callF (av := []) 33 (i := 6) (by decide) mt_yJ_len mv_yJ_len wd_559 (by decide) dX9_spells_30 rfl rfl rfl (Nat.le_of_ble_eq_true rfl) (jroom (by decide)) rfl (c_strlen (i := 6) (z := 4) (by decide) (by decide) ?_)
              dsimp only [jpush]
              refine e_icmp_ge 36 63 dX9_spells_33 (by decide) (by decide) (by decide) rfl (fun _ => ?_) (fun h => absurd h (by decide))
              refine e_iconst 64 dX9_spells_63 rfl ?_
              refine e_zret dX9_spells_64 (by decide) ?_
              first
                | (exfalso; omega)
                | (exact h1 (by
                     have hk := kw_6.mpr (show isW6 (M 931) s.1 s.2.1 by omega)
                     omega))
            · skip
              refine e_iconst 56 dX9_spells_55 rfl ?_
              refine e_zret dX9_spells_56 (by decide) ?_
              first
                | (exfalso; omega)
                | (exact h0 (fun q => by
                     have hk := kw_6.mp (show kx0 (M 931) s.1 s.2.1 = 6 by omega)
                     omega))
          · skip
            refine e_iconst 56 dX9_spells_55 rfl ?_
            refine e_zret dX9_spells_56 (by decide) ?_
            first
              | (exfalso; omega)
              | (exact h0 (fun q => by
                   have hk := kw_6.mp (show kx0 (M 931) s.1 s.2.1 = 6 by omega)
                   omega))
        · skip
          refine e_iconst 56 dX9_spells_55 rfl ?_
          refine e_zret dX9_spells_56 (by decide) ?_
          first
            | (exfalso; omega)
            | (exact h0 (fun q => by
                 have hk := kw_6.mp (show kx0 (M 931) s.1 s.2.1 = 6 by omega)
                 omega))
      · skip
        refine e_iconst 56 dX9_spells_55 rfl ?_
        refine e_zret dX9_spells_56 (by decide) ?_
        first
          | (exfalso; omega)
          | (exact h0 (fun q => by
               have hk := kw_6.mp (show kx0 (M 931) s.1 s.2.1 = 6 by omega)
               omega))
    · skip
      refine e_iconst 25 dX9_spells_24 rfl ?_
      refine e_zret dX9_spells_25 (by decide) ?_
      first
        | (exfalso; omega)
        | (exact h0 (fun q => by
             have hk := kw_6.mp (show kx0 (M 931) s.1 s.2.1 = 6 by omega)
             omega))

theorem c_spells_7 {M Z : jM} {n : Int} {Q : Int → jM → Prop} (hM : CM M n) {s : PS} (hZ : CTk M Z n s) (hI : PI n s) (h1 : s.2.2.1 = 7 → Q 1 Z) (h0 : s.2.2.1 ≠ 7 → Q 0 Z) : jCt yX9_spells cX9_spells 3 (some .boolean) 5 [jR 883, jF 13] Z Q := by
  refine jCt_of mt_yX9_spells (Nat.le_of_ble_eq_true rfl) (fun X => ?_)
  have e3 := hZ.2.2.2.1.1
  have e5 := hZ.2.2.2.1.2.1
  have eT := hZ.2.2.2.1.2.2
  have hi1 := hI.1
  have hi2 := hI.2.1
  have hn0 := hM.1
  have e84 : Z 884 = M 884 := hZ.1 884 (by omega)
  refine e_aload_n (i := 0) 1 dX9_spells_0 rfl rfl rfl ?_
  refine e_geti (j := 4) 4 fl_9_40 dX9_spells_1 at_883 (by decide) rfl rfl (fun r1 => ?_)
  refine e_iconst 5 dX9_spells_4 rfl ?_
  refine e_icmp_ne 8 24 dX9_spells_5 (by omega) (by decide) (by decide) rfl (fun b5 => ?_) (fun b5 => ?_)
  · skip
    refine e_iconst 25 dX9_spells_24 rfl ?_
    refine e_zret dX9_spells_25 (by decide) ?_
    first
      | (exfalso; omega)
      | (exact h0 (fun q => by
           have hk := kw_7.mp (show kx0 (M 931) s.1 s.2.1 = 7 by omega)
           omega))
  · skip
    refine e_aload_n (i := 0) 9 dX9_spells_8 rfl rfl rfl ?_
    refine e_geti (j := 3) 12 fl_9_28 dX9_spells_9 at_883 (by decide) rfl rfl (fun r9 => ?_)
    refine e_aload_n (i := 0) 13 dX9_spells_12 rfl rfl rfl ?_
    refine e_geti (j := 5) 16 fl_9_34 dX9_spells_13 at_883 (by decide) rfl rfl (fun r13 => ?_)
    refine e_isub 17 dX9_spells_16 rfl ?_
    refine e_aloadF_n (i := 1) 18 dX9_spells_17 rfl rfl rfl ?_
    refine e_callF (av := []) 21 (i := 7) (by decide) mt_yJ_len mv_yJ_len wd_559 (by decide) dX9_spells_18 rfl rfl rfl (Nat.le_of_ble_eq_true rfl) (jroom (by decide)) rfl (c_strlen (i := 7) (z := 4) (by decide) (by decide) ?_)
    dsimp only [jpush]
    refine e_icmp_eq 24 26 dX9_spells_21 (by omega) (by decide) (by decide) rfl (fun b21 => ?_) (fun b21 => ?_)
    · skip
      have y0 := hM.2 (s.1) (by omega) (by omega)
      have z0 := w8_c y0.1
      have x0 := y0.2
      have y1 := hM.2 (s.1 + 1) (by omega) (by omega)
      have z1 := w8_c y1.1
      have x1 := y1.2
      have y2 := hM.2 (s.1 + 2) (by omega) (by omega)
      have z2 := w8_c y2.1
      have x2 := y2.2
      have y3 := hM.2 (s.1 + 3) (by omega) (by omega)
      have z3 := w8_c y3.1
      have x3 := y3.2
      refine e_iconst 27 dX9_spells_26 rfl ?_
      refine e_istore_n (i := 2) (lsn := [(2, _), (0, _), (1, _)]) 28 dX9_spells_27 rfl (by decide) rfl rfl ?_
      refine e_iload_n (i := 2) 29 dX9_spells_28 rfl rfl rfl ?_
      refine e_aloadF_n (i := 1) 30 dX9_spells_29 rfl rfl rfl ?_
      refine e_callF (av := []) 33 (i := 7) (by decide) mt_yJ_len mv_yJ_len wd_559 (by decide) dX9_spells_30 rfl rfl rfl (Nat.le_of_ble_eq_true rfl) (jroom (by decide)) rfl (c_strlen (i := 7) (z := 4) (by decide) (by decide) ?_)
      dsimp only [jpush]
      refine e_icmp_ge 36 63 dX9_spells_33 (by decide) (by decide) (by decide) rfl (fun h => absurd h (by decide)) (fun _ => ?_)
      refine e_aload_n (i := 0) 37 dX9_spells_36 rfl rfl rfl ?_
      refine e_getr (j := 0) 40 fl_9_9 dX9_spells_37 at_883 rfl rfl tp_883_0 rfl ?_
      refine e_aload_n (i := 0) 41 dX9_spells_40 rfl rfl rfl ?_
      refine e_geti (j := 5) 44 fl_9_34 dX9_spells_41 at_883 (by decide) rfl rfl (fun r41 => ?_)
      refine e_iload_n (i := 2) 45 dX9_spells_44 rfl rfl rfl ?_
      refine e_iadd 46 dX9_spells_45 rfl ?_
      refine e_bald 47 dX9_spells_46 ar_884 (by omega) (by omega) rfl (fun r46 => ?_)
      simp only [e5, e84, Int.reduceAdd, Int.add_zero] at r46 ⊢
      refine e_aloadF_n (i := 1) 48 dX9_spells_47 rfl rfl rfl ?_
      refine e_iload_n (i := 2) 49 dX9_spells_48 rfl rfl rfl ?_
      refine e_callF (av := [jI _]) 52 (i := 7) (by decide) mt_yJ_charAt mv_yJ_charAt wd_569 (by decide) dX9_spells_49 rfl rfl rfl (Nat.le_of_ble_eq_true rfl) (jroom (by decide)) rfl (c_charAt (i := 7) (k := 0) (z := 109) (by decide) (by decide) (by decide +kernel) ?_)
      dsimp only [jpush]
      refine e_icmp_eq 55 57 dX9_spells_52 (by omega) (by decide) (by decide) rfl (fun b52 => ?_) (fun b52 => ?_)
      · skip
        refine e_iinc (lsn := [(2, _), (0, _), (1, _)]) 60 dX9_spells_57 rfl (by decide) rfl rfl ?_
        refine e_goto 28 dX9_spells_60 (by decide) ?_
        refine e_iload_n (i := 2) 29 dX9_spells_28 rfl rfl rfl ?_
        refine e_aloadF_n (i := 1) 30 dX9_spells_29 rfl rfl rfl ?_
        refine e_callF (av := []) 33 (i := 7) (by decide) mt_yJ_len mv_yJ_len wd_559 (by decide) dX9_spells_30 rfl rfl rfl (Nat.le_of_ble_eq_true rfl) (jroom (by decide)) rfl (c_strlen (i := 7) (z := 4) (by decide) (by decide) ?_)
        dsimp only [jpush]
        refine e_icmp_ge 36 63 dX9_spells_33 (by decide) (by decide) (by decide) rfl (fun h => absurd h (by decide)) (fun _ => ?_)
        refine e_aload_n (i := 0) 37 dX9_spells_36 rfl rfl rfl ?_
        refine e_getr (j := 0) 40 fl_9_9 dX9_spells_37 at_883 rfl rfl tp_883_0 rfl ?_
        refine e_aload_n (i := 0) 41 dX9_spells_40 rfl rfl rfl ?_
        refine e_geti (j := 5) 44 fl_9_34 dX9_spells_41 at_883 (by decide) rfl rfl (fun r41 => ?_)
        refine e_iload_n (i := 2) 45 dX9_spells_44 rfl rfl rfl ?_
        refine e_iadd 46 dX9_spells_45 rfl ?_
        refine e_bald 47 dX9_spells_46 ar_884 (by omega) (by omega) rfl (fun r46 => ?_)
        simp only [e5, e84, Int.reduceAdd, Int.add_zero] at r46 ⊢
        refine e_aloadF_n (i := 1) 48 dX9_spells_47 rfl rfl rfl ?_
        refine e_iload_n (i := 2) 49 dX9_spells_48 rfl rfl rfl ?_
        refine e_callF (av := [jI _]) 52 (i := 7) (by decide) mt_yJ_charAt mv_yJ_charAt wd_569 (by decide) dX9_spells_49 rfl rfl rfl (Nat.le_of_ble_eq_true rfl) (jroom (by decide)) rfl (c_charAt (i := 7) (k := 1) (z := 111) (by decide) (by decide) (by decide +kernel) ?_)
        dsimp only [jpush]
        refine e_icmp_eq 55 57 dX9_spells_52 (by omega) (by decide) (by decide) rfl (fun b52 => ?_) (fun b52 => ?_)
        · skip
          refine e_iinc (lsn := [(2, _), (0, _), (1, _)]) 60 dX9_spells_57 rfl (by decide) rfl rfl ?_
          refine e_goto 28 dX9_spells_60 (by decide) ?_
          refine e_iload_n (i := 2) 29 dX9_spells_28 rfl rfl rfl ?_
          refine e_aloadF_n (i := 1) 30 dX9_spells_29 rfl rfl rfl ?_
          refine e_callF (av := []) 33 (i := 7) (by decide) mt_yJ_len mv_yJ_len wd_559 (by decide) dX9_spells_30 rfl rfl rfl (Nat.le_of_ble_eq_true rfl) (jroom (by decide)) rfl (c_strlen (i := 7) (z := 4) (by decide) (by decide) ?_)
          dsimp only [jpush]
          refine e_icmp_ge 36 63 dX9_spells_33 (by decide) (by decide) (by decide) rfl (fun h => absurd h (by decide)) (fun _ => ?_)
          refine e_aload_n (i := 0) 37 dX9_spells_36 rfl rfl rfl ?_
          refine e_getr (j := 0) 40 fl_9_9 dX9_spells_37 at_883 rfl rfl tp_883_0 rfl ?_
          refine e_aload_n (i := 0) 41 dX9_spells_40 rfl rfl rfl ?_
          refine e_geti (j := 5) 44 fl_9_34 dX9_spells_41 at_883 (by decide) rfl rfl (fun r41 => ?_)
          refine e_iload_n (i := 2) 45 dX9_spells_44 rfl rfl rfl ?_
          refine e_iadd 46 dX9_spells_45 rfl ?_
          refine e_bald 47 dX9_spells_46 ar_884 (by omega) (by omega) rfl (fun r46 => ?_)
          simp only [e5, e84, Int.reduceAdd, Int.add_zero] at r46 ⊢
          refine e_aloadF_n (i := 1) 48 dX9_spells_47 rfl rfl rfl ?_
          refine e_iload_n (i := 2) 49 dX9_spells_48 rfl rfl rfl ?_
          refine e_callF (av := [jI _]) 52 (i := 7) (by decide) mt_yJ_charAt mv_yJ_charAt wd_569 (by decide) dX9_spells_49 rfl rfl rfl (Nat.le_of_ble_eq_true rfl) (jroom (by decide)) rfl (c_charAt (i := 7) (k := 2) (z := 116) (by decide) (by decide) (by decide +kernel) ?_)
          dsimp only [jpush]
          refine e_icmp_eq 55 57 dX9_spells_52 (by omega) (by decide) (by decide) rfl (fun b52 => ?_) (fun b52 => ?_)
          · skip
            refine e_iinc (lsn := [(2, _), (0, _), (1, _)]) 60 dX9_spells_57 rfl (by decide) rfl rfl ?_
            refine e_goto 28 dX9_spells_60 (by decide) ?_
            refine e_iload_n (i := 2) 29 dX9_spells_28 rfl rfl rfl ?_
            refine e_aloadF_n (i := 1) 30 dX9_spells_29 rfl rfl rfl ?_
            refine e_callF (av := []) 33 (i := 7) (by decide) mt_yJ_len mv_yJ_len wd_559 (by decide) dX9_spells_30 rfl rfl rfl (Nat.le_of_ble_eq_true rfl) (jroom (by decide)) rfl (c_strlen (i := 7) (z := 4) (by decide) (by decide) ?_)
            dsimp only [jpush]
            refine e_icmp_ge 36 63 dX9_spells_33 (by decide) (by decide) (by decide) rfl (fun h => absurd h (by decide)) (fun _ => ?_)
            refine e_aload_n (i := 0) 37 dX9_spells_36 rfl rfl rfl ?_
            refine e_getr (j := 0) 40 fl_9_9 dX9_spells_37 at_883 rfl rfl tp_883_0 rfl ?_
            refine e_aload_n (i := 0) 41 dX9_spells_40 rfl rfl rfl ?_
            refine e_geti (j := 5) 44 fl_9_34 dX9_spells_41 at_883 (by decide) rfl rfl (fun r41 => ?_)
            refine e_iload_n (i := 2) 45 dX9_spells_44 rfl rfl rfl ?_
            refine e_iadd 46 dX9_spells_45 rfl ?_
            refine e_bald 47 dX9_spells_46 ar_884 (by omega) (by omega) rfl (fun r46 => ?_)
            simp only [e5, e84, Int.reduceAdd, Int.add_zero] at r46 ⊢
            refine e_aloadF_n (i := 1) 48 dX9_spells_47 rfl rfl rfl ?_
            refine e_iload_n (i := 2) 49 dX9_spells_48 rfl rfl rfl ?_
            refine e_callF (av := [jI _]) 52 (i := 7) (by decide) mt_yJ_charAt mv_yJ_charAt wd_569 (by decide) dX9_spells_49 rfl rfl rfl (Nat.le_of_ble_eq_true rfl) (jroom (by decide)) rfl (c_charAt (i := 7) (k := 3) (z := 104) (by decide) (by decide) (by decide +kernel) ?_)
            dsimp only [jpush]
            refine e_icmp_eq 55 57 dX9_spells_52 (by omega) (by decide) (by decide) rfl (fun b52 => ?_) (fun b52 => ?_)
            · skip
              refine e_iinc (lsn := [(2, _), (0, _), (1, _)]) 60 dX9_spells_57 rfl (by decide) rfl rfl ?_
              refine e_goto 28 dX9_spells_60 (by decide) ?_
              refine e_iload_n (i := 2) 29 dX9_spells_28 rfl rfl rfl ?_
              refine e_aloadF_n (i := 1) 30 dX9_spells_29 rfl rfl rfl ?_
              refine e_callF (av := []) 33 (i := 7) (by decide) mt_yJ_len mv_yJ_len wd_559 (by decide) dX9_spells_30 rfl rfl rfl (Nat.le_of_ble_eq_true rfl) (jroom (by decide)) rfl (c_strlen (i := 7) (z := 4) (by decide) (by decide) ?_)
              dsimp only [jpush]
              refine e_icmp_ge 36 63 dX9_spells_33 (by decide) (by decide) (by decide) rfl (fun _ => ?_) (fun h => absurd h (by decide))
              refine e_iconst 64 dX9_spells_63 rfl ?_
              refine e_zret dX9_spells_64 (by decide) ?_
              first
                | (exfalso; omega)
                | (exact h1 (by
                     have hk := kw_7.mpr (show isW7 (M 931) s.1 s.2.1 by omega)
                     omega))
            · skip
              refine e_iconst 56 dX9_spells_55 rfl ?_
              refine e_zret dX9_spells_56 (by decide) ?_
              first
                | (exfalso; omega)
                | (exact h0 (fun q => by
                     have hk := kw_7.mp (show kx0 (M 931) s.1 s.2.1 = 7 by omega)
                     omega))
          · skip
            refine e_iconst 56 dX9_spells_55 rfl ?_
            refine e_zret dX9_spells_56 (by decide) ?_
            first
              | (exfalso; omega)
              | (exact h0 (fun q => by
                   have hk := kw_7.mp (show kx0 (M 931) s.1 s.2.1 = 7 by omega)
                   omega))
        · skip
          refine e_iconst 56 dX9_spells_55 rfl ?_
          refine e_zret dX9_spells_56 (by decide) ?_
          first
            | (exfalso; omega)
            | (exact h0 (fun q => by
                 have hk := kw_7.mp (show kx0 (M 931) s.1 s.2.1 = 7 by omega)
                 omega))
      · skip
        refine e_iconst 56 dX9_spells_55 rfl ?_
        refine e_zret dX9_spells_56 (by decide) ?_
        first
          | (exfalso; omega)
          | (exact h0 (fun q => by
               have hk := kw_7.mp (show kx0 (M 931) s.1 s.2.1 = 7 by omega)
               omega))
    · skip
      refine e_iconst 25 dX9_spells_24 rfl ?_
      refine e_zret dX9_spells_25 (by decide) ?_
      first
        | (exfalso; omega)
        | (exact h0 (fun q => by
             have hk := kw_7.mp (show kx0 (M 931) s.1 s.2.1 = 7 by omega)
             omega))

theorem c_spells_8 {M Z : jM} {n : Int} {Q : Int → jM → Prop} (hM : CM M n) {s : PS} (hZ : CTk M Z n s) (hI : PI n s) (h1 : s.2.2.1 = 8 → Q 1 Z) (h0 : s.2.2.1 ≠ 8 → Q 0 Z) : jCt yX9_spells cX9_spells 3 (some .boolean) 5 [jR 883, jF 14] Z Q := by
  refine jCt_of mt_yX9_spells (Nat.le_of_ble_eq_true rfl) (fun X => ?_)
  have e3 := hZ.2.2.2.1.1
  have e5 := hZ.2.2.2.1.2.1
  have eT := hZ.2.2.2.1.2.2
  have hi1 := hI.1
  have hi2 := hI.2.1
  have hn0 := hM.1
  have e84 : Z 884 = M 884 := hZ.1 884 (by omega)
  refine e_aload_n (i := 0) 1 dX9_spells_0 rfl rfl rfl ?_
  refine e_geti (j := 4) 4 fl_9_40 dX9_spells_1 at_883 (by decide) rfl rfl (fun r1 => ?_)
  refine e_iconst 5 dX9_spells_4 rfl ?_
  refine e_icmp_ne 8 24 dX9_spells_5 (by omega) (by decide) (by decide) rfl (fun b5 => ?_) (fun b5 => ?_)
  · skip
    refine e_iconst 25 dX9_spells_24 rfl ?_
    refine e_zret dX9_spells_25 (by decide) ?_
    first
      | (exfalso; omega)
      | (exact h0 (fun q => by
           have hk := kw_8.mp (show kx0 (M 931) s.1 s.2.1 = 8 by omega)
           omega))
  · skip
    refine e_aload_n (i := 0) 9 dX9_spells_8 rfl rfl rfl ?_
    refine e_geti (j := 3) 12 fl_9_28 dX9_spells_9 at_883 (by decide) rfl rfl (fun r9 => ?_)
    refine e_aload_n (i := 0) 13 dX9_spells_12 rfl rfl rfl ?_
    refine e_geti (j := 5) 16 fl_9_34 dX9_spells_13 at_883 (by decide) rfl rfl (fun r13 => ?_)
    refine e_isub 17 dX9_spells_16 rfl ?_
    refine e_aloadF_n (i := 1) 18 dX9_spells_17 rfl rfl rfl ?_
    refine e_callF (av := []) 21 (i := 8) (by decide) mt_yJ_len mv_yJ_len wd_559 (by decide) dX9_spells_18 rfl rfl rfl (Nat.le_of_ble_eq_true rfl) (jroom (by decide)) rfl (c_strlen (i := 8) (z := 4) (by decide) (by decide) ?_)
    dsimp only [jpush]
    refine e_icmp_eq 24 26 dX9_spells_21 (by omega) (by decide) (by decide) rfl (fun b21 => ?_) (fun b21 => ?_)
    · skip
      have y0 := hM.2 (s.1) (by omega) (by omega)
      have z0 := w8_c y0.1
      have x0 := y0.2
      have y1 := hM.2 (s.1 + 1) (by omega) (by omega)
      have z1 := w8_c y1.1
      have x1 := y1.2
      have y2 := hM.2 (s.1 + 2) (by omega) (by omega)
      have z2 := w8_c y2.1
      have x2 := y2.2
      have y3 := hM.2 (s.1 + 3) (by omega) (by omega)
      have z3 := w8_c y3.1
      have x3 := y3.2
      refine e_iconst 27 dX9_spells_26 rfl ?_
      refine e_istore_n (i := 2) (lsn := [(2, _), (0, _), (1, _)]) 28 dX9_spells_27 rfl (by decide) rfl rfl ?_
      refine e_iload_n (i := 2) 29 dX9_spells_28 rfl rfl rfl ?_
      refine e_aloadF_n (i := 1) 30 dX9_spells_29 rfl rfl rfl ?_
      refine e_callF (av := []) 33 (i := 8) (by decide) mt_yJ_len mv_yJ_len wd_559 (by decide) dX9_spells_30 rfl rfl rfl (Nat.le_of_ble_eq_true rfl) (jroom (by decide)) rfl (c_strlen (i := 8) (z := 4) (by decide) (by decide) ?_)
      dsimp only [jpush]
      refine e_icmp_ge 36 63 dX9_spells_33 (by decide) (by decide) (by decide) rfl (fun h => absurd h (by decide)) (fun _ => ?_)
      refine e_aload_n (i := 0) 37 dX9_spells_36 rfl rfl rfl ?_
      refine e_getr (j := 0) 40 fl_9_9 dX9_spells_37 at_883 rfl rfl tp_883_0 rfl ?_
      refine e_aload_n (i := 0) 41 dX9_spells_40 rfl rfl rfl ?_
      refine e_geti (j := 5) 44 fl_9_34 dX9_spells_41 at_883 (by decide) rfl rfl (fun r41 => ?_)
      refine e_iload_n (i := 2) 45 dX9_spells_44 rfl rfl rfl ?_
      refine e_iadd 46 dX9_spells_45 rfl ?_
      refine e_bald 47 dX9_spells_46 ar_884 (by omega) (by omega) rfl (fun r46 => ?_)
      simp only [e5, e84, Int.reduceAdd, Int.add_zero] at r46 ⊢
      refine e_aloadF_n (i := 1) 48 dX9_spells_47 rfl rfl rfl ?_
      refine e_iload_n (i := 2) 49 dX9_spells_48 rfl rfl rfl ?_
      refine e_callF (av := [jI _]) 52 (i := 8) (by decide) mt_yJ_charAt mv_yJ_charAt wd_569 (by decide) dX9_spells_49 rfl rfl rfl (Nat.le_of_ble_eq_true rfl) (jroom (by decide)) rfl (c_charAt (i := 8) (k := 0) (z := 104) (by decide) (by decide) (by decide +kernel) ?_)
      dsimp only [jpush]
      refine e_icmp_eq 55 57 dX9_spells_52 (by omega) (by decide) (by decide) rfl (fun b52 => ?_) (fun b52 => ?_)
      · skip
        refine e_iinc (lsn := [(2, _), (0, _), (1, _)]) 60 dX9_spells_57 rfl (by decide) rfl rfl ?_
        refine e_goto 28 dX9_spells_60 (by decide) ?_
        refine e_iload_n (i := 2) 29 dX9_spells_28 rfl rfl rfl ?_
        refine e_aloadF_n (i := 1) 30 dX9_spells_29 rfl rfl rfl ?_
        refine e_callF (av := []) 33 (i := 8) (by decide) mt_yJ_len mv_yJ_len wd_559 (by decide) dX9_spells_30 rfl rfl rfl (Nat.le_of_ble_eq_true rfl) (jroom (by decide)) rfl (c_strlen (i := 8) (z := 4) (by decide) (by decide) ?_)
        dsimp only [jpush]
        refine e_icmp_ge 36 63 dX9_spells_33 (by decide) (by decide) (by decide) rfl (fun h => absurd h (by decide)) (fun _ => ?_)
        refine e_aload_n (i := 0) 37 dX9_spells_36 rfl rfl rfl ?_
        refine e_getr (j := 0) 40 fl_9_9 dX9_spells_37 at_883 rfl rfl tp_883_0 rfl ?_
        refine e_aload_n (i := 0) 41 dX9_spells_40 rfl rfl rfl ?_
        refine e_geti (j := 5) 44 fl_9_34 dX9_spells_41 at_883 (by decide) rfl rfl (fun r41 => ?_)
        refine e_iload_n (i := 2) 45 dX9_spells_44 rfl rfl rfl ?_
        refine e_iadd 46 dX9_spells_45 rfl ?_
        refine e_bald 47 dX9_spells_46 ar_884 (by omega) (by omega) rfl (fun r46 => ?_)
        simp only [e5, e84, Int.reduceAdd, Int.add_zero] at r46 ⊢
        refine e_aloadF_n (i := 1) 48 dX9_spells_47 rfl rfl rfl ?_
        refine e_iload_n (i := 2) 49 dX9_spells_48 rfl rfl rfl ?_
        refine e_callF (av := [jI _]) 52 (i := 8) (by decide) mt_yJ_charAt mv_yJ_charAt wd_569 (by decide) dX9_spells_49 rfl rfl rfl (Nat.le_of_ble_eq_true rfl) (jroom (by decide)) rfl (c_charAt (i := 8) (k := 1) (z := 111) (by decide) (by decide) (by decide +kernel) ?_)
        dsimp only [jpush]
        refine e_icmp_eq 55 57 dX9_spells_52 (by omega) (by decide) (by decide) rfl (fun b52 => ?_) (fun b52 => ?_)
        · skip
          refine e_iinc (lsn := [(2, _), (0, _), (1, _)]) 60 dX9_spells_57 rfl (by decide) rfl rfl ?_
          refine e_goto 28 dX9_spells_60 (by decide) ?_
          refine e_iload_n (i := 2) 29 dX9_spells_28 rfl rfl rfl ?_
          refine e_aloadF_n (i := 1) 30 dX9_spells_29 rfl rfl rfl ?_
          refine e_callF (av := []) 33 (i := 8) (by decide) mt_yJ_len mv_yJ_len wd_559 (by decide) dX9_spells_30 rfl rfl rfl (Nat.le_of_ble_eq_true rfl) (jroom (by decide)) rfl (c_strlen (i := 8) (z := 4) (by decide) (by decide) ?_)
          dsimp only [jpush]
          refine e_icmp_ge 36 63 dX9_spells_33 (by decide) (by decide) (by decide) rfl (fun h => absurd h (by decide)) (fun _ => ?_)
          refine e_aload_n (i := 0) 37 dX9_spells_36 rfl rfl rfl ?_
          refine e_getr (j := 0) 40 fl_9_9 dX9_spells_37 at_883 rfl rfl tp_883_0 rfl ?_
          refine e_aload_n (i := 0) 41 dX9_spells_40 rfl rfl rfl ?_
          refine e_geti (j := 5) 44 fl_9_34 dX9_spells_41 at_883 (by decide) rfl rfl (fun r41 => ?_)
          refine e_iload_n (i := 2) 45 dX9_spells_44 rfl rfl rfl ?_
          refine e_iadd 46 dX9_spells_45 rfl ?_
          refine e_bald 47 dX9_spells_46 ar_884 (by omega) (by omega) rfl (fun r46 => ?_)
          simp only [e5, e84, Int.reduceAdd, Int.add_zero] at r46 ⊢
          refine e_aloadF_n (i := 1) 48 dX9_spells_47 rfl rfl rfl ?_
          refine e_iload_n (i := 2) 49 dX9_spells_48 rfl rfl rfl ?_
          refine e_callF (av := [jI _]) 52 (i := 8) (by decide) mt_yJ_charAt mv_yJ_charAt wd_569 (by decide) dX9_spells_49 rfl rfl rfl (Nat.le_of_ble_eq_true rfl) (jroom (by decide)) rfl (c_charAt (i := 8) (k := 2) (z := 108) (by decide) (by decide) (by decide +kernel) ?_)
          dsimp only [jpush]
          refine e_icmp_eq 55 57 dX9_spells_52 (by omega) (by decide) (by decide) rfl (fun b52 => ?_) (fun b52 => ?_)
          · skip
            refine e_iinc (lsn := [(2, _), (0, _), (1, _)]) 60 dX9_spells_57 rfl (by decide) rfl rfl ?_
            refine e_goto 28 dX9_spells_60 (by decide) ?_
            refine e_iload_n (i := 2) 29 dX9_spells_28 rfl rfl rfl ?_
            refine e_aloadF_n (i := 1) 30 dX9_spells_29 rfl rfl rfl ?_
            refine e_callF (av := []) 33 (i := 8) (by decide) mt_yJ_len mv_yJ_len wd_559 (by decide) dX9_spells_30 rfl rfl rfl (Nat.le_of_ble_eq_true rfl) (jroom (by decide)) rfl (c_strlen (i := 8) (z := 4) (by decide) (by decide) ?_)
            dsimp only [jpush]
            refine e_icmp_ge 36 63 dX9_spells_33 (by decide) (by decide) (by decide) rfl (fun h => absurd h (by decide)) (fun _ => ?_)
            refine e_aload_n (i := 0) 37 dX9_spells_36 rfl rfl rfl ?_
            refine e_getr (j := 0) 40 fl_9_9 dX9_spells_37 at_883 rfl rfl tp_883_0 rfl ?_
            refine e_aload_n (i := 0) 41 dX9_spells_40 rfl rfl rfl ?_
            refine e_geti (j := 5) 44 fl_9_34 dX9_spells_41 at_883 (by decide) rfl rfl (fun r41 => ?_)
            refine e_iload_n (i := 2) 45 dX9_spells_44 rfl rfl rfl ?_
            refine e_iadd 46 dX9_spells_45 rfl ?_
            refine e_bald 47 dX9_spells_46 ar_884 (by omega) (by omega) rfl (fun r46 => ?_)
            simp only [e5, e84, Int.reduceAdd, Int.add_zero] at r46 ⊢
            refine e_aloadF_n (i := 1) 48 dX9_spells_47 rfl rfl rfl ?_
            refine e_iload_n (i := 2) 49 dX9_spells_48 rfl rfl rfl ?_
            refine e_callF (av := [jI _]) 52 (i := 8) (by decide) mt_yJ_charAt mv_yJ_charAt wd_569 (by decide) dX9_spells_49 rfl rfl rfl (Nat.le_of_ble_eq_true rfl) (jroom (by decide)) rfl (c_charAt (i := 8) (k := 3) (z := 100) (by decide) (by decide) (by decide +kernel) ?_)
            dsimp only [jpush]
            refine e_icmp_eq 55 57 dX9_spells_52 (by omega) (by decide) (by decide) rfl (fun b52 => ?_) (fun b52 => ?_)
            · skip
              refine e_iinc (lsn := [(2, _), (0, _), (1, _)]) 60 dX9_spells_57 rfl (by decide) rfl rfl ?_
              refine e_goto 28 dX9_spells_60 (by decide) ?_
              refine e_iload_n (i := 2) 29 dX9_spells_28 rfl rfl rfl ?_
              refine e_aloadF_n (i := 1) 30 dX9_spells_29 rfl rfl rfl ?_
              refine e_callF (av := []) 33 (i := 8) (by decide) mt_yJ_len mv_yJ_len wd_559 (by decide) dX9_spells_30 rfl rfl rfl (Nat.le_of_ble_eq_true rfl) (jroom (by decide)) rfl (c_strlen (i := 8) (z := 4) (by decide) (by decide) ?_)
              dsimp only [jpush]
              refine e_icmp_ge 36 63 dX9_spells_33 (by decide) (by decide) (by decide) rfl (fun _ => ?_) (fun h => absurd h (by decide))
              refine e_iconst 64 dX9_spells_63 rfl ?_
              refine e_zret dX9_spells_64 (by decide) ?_
              first
                | (exfalso; omega)
                | (exact h1 (by
                     have hk := kw_8.mpr (show isW8 (M 931) s.1 s.2.1 by omega)
                     omega))
            · skip
              refine e_iconst 56 dX9_spells_55 rfl ?_
              refine e_zret dX9_spells_56 (by decide) ?_
              first
                | (exfalso; omega)
                | (exact h0 (fun q => by
                     have hk := kw_8.mp (show kx0 (M 931) s.1 s.2.1 = 8 by omega)
                     omega))
          · skip
            refine e_iconst 56 dX9_spells_55 rfl ?_
            refine e_zret dX9_spells_56 (by decide) ?_
            first
              | (exfalso; omega)
              | (exact h0 (fun q => by
                   have hk := kw_8.mp (show kx0 (M 931) s.1 s.2.1 = 8 by omega)
                   omega))
        · skip
          refine e_iconst 56 dX9_spells_55 rfl ?_
          refine e_zret dX9_spells_56 (by decide) ?_
          first
            | (exfalso; omega)
            | (exact h0 (fun q => by
                 have hk := kw_8.mp (show kx0 (M 931) s.1 s.2.1 = 8 by omega)
                 omega))
      · skip
        refine e_iconst 56 dX9_spells_55 rfl ?_
        refine e_zret dX9_spells_56 (by decide) ?_
        first
          | (exfalso; omega)
          | (exact h0 (fun q => by
               have hk := kw_8.mp (show kx0 (M 931) s.1 s.2.1 = 8 by omega)
               omega))
    · skip
      refine e_iconst 25 dX9_spells_24 rfl ?_
      refine e_zret dX9_spells_25 (by decide) ?_
      first
        | (exfalso; omega)
        | (exact h0 (fun q => by
             have hk := kw_8.mp (show kx0 (M 931) s.1 s.2.1 = 8 by omega)
             omega))

theorem c_spells_9 {M Z : jM} {n : Int} {Q : Int → jM → Prop} (hM : CM M n) {s : PS} (hZ : CTk M Z n s) (hI : PI n s) (h1 : s.2.2.1 = 9 → Q 1 Z) (h0 : s.2.2.1 ≠ 9 → Q 0 Z) : jCt yX9_spells cX9_spells 3 (some .boolean) 5 [jR 883, jF 15] Z Q := by
  refine jCt_of mt_yX9_spells (Nat.le_of_ble_eq_true rfl) (fun X => ?_)
  have e3 := hZ.2.2.2.1.1
  have e5 := hZ.2.2.2.1.2.1
  have eT := hZ.2.2.2.1.2.2
  have hi1 := hI.1
  have hi2 := hI.2.1
  have hn0 := hM.1
  have e84 : Z 884 = M 884 := hZ.1 884 (by omega)
  refine e_aload_n (i := 0) 1 dX9_spells_0 rfl rfl rfl ?_
  refine e_geti (j := 4) 4 fl_9_40 dX9_spells_1 at_883 (by decide) rfl rfl (fun r1 => ?_)
  refine e_iconst 5 dX9_spells_4 rfl ?_
  refine e_icmp_ne 8 24 dX9_spells_5 (by omega) (by decide) (by decide) rfl (fun b5 => ?_) (fun b5 => ?_)
  · skip
    refine e_iconst 25 dX9_spells_24 rfl ?_
    refine e_zret dX9_spells_25 (by decide) ?_
    first
      | (exfalso; omega)
      | (exact h0 (fun q => by
           have hk := kw_9.mp (show kx0 (M 931) s.1 s.2.1 = 9 by omega)
           omega))
  · skip
    refine e_aload_n (i := 0) 9 dX9_spells_8 rfl rfl rfl ?_
    refine e_geti (j := 3) 12 fl_9_28 dX9_spells_9 at_883 (by decide) rfl rfl (fun r9 => ?_)
    refine e_aload_n (i := 0) 13 dX9_spells_12 rfl rfl rfl ?_
    refine e_geti (j := 5) 16 fl_9_34 dX9_spells_13 at_883 (by decide) rfl rfl (fun r13 => ?_)
    refine e_isub 17 dX9_spells_16 rfl ?_
    refine e_aloadF_n (i := 1) 18 dX9_spells_17 rfl rfl rfl ?_
    refine e_callF (av := []) 21 (i := 9) (by decide) mt_yJ_len mv_yJ_len wd_559 (by decide) dX9_spells_18 rfl rfl rfl (Nat.le_of_ble_eq_true rfl) (jroom (by decide)) rfl (c_strlen (i := 9) (z := 4) (by decide) (by decide) ?_)
    dsimp only [jpush]
    refine e_icmp_eq 24 26 dX9_spells_21 (by omega) (by decide) (by decide) rfl (fun b21 => ?_) (fun b21 => ?_)
    · skip
      have y0 := hM.2 (s.1) (by omega) (by omega)
      have z0 := w8_c y0.1
      have x0 := y0.2
      have y1 := hM.2 (s.1 + 1) (by omega) (by omega)
      have z1 := w8_c y1.1
      have x1 := y1.2
      have y2 := hM.2 (s.1 + 2) (by omega) (by omega)
      have z2 := w8_c y2.1
      have x2 := y2.2
      have y3 := hM.2 (s.1 + 3) (by omega) (by omega)
      have z3 := w8_c y3.1
      have x3 := y3.2
      refine e_iconst 27 dX9_spells_26 rfl ?_
      refine e_istore_n (i := 2) (lsn := [(2, _), (0, _), (1, _)]) 28 dX9_spells_27 rfl (by decide) rfl rfl ?_
      refine e_iload_n (i := 2) 29 dX9_spells_28 rfl rfl rfl ?_
      refine e_aloadF_n (i := 1) 30 dX9_spells_29 rfl rfl rfl ?_
      refine e_callF (av := []) 33 (i := 9) (by decide) mt_yJ_len mv_yJ_len wd_559 (by decide) dX9_spells_30 rfl rfl rfl (Nat.le_of_ble_eq_true rfl) (jroom (by decide)) rfl (c_strlen (i := 9) (z := 4) (by decide) (by decide) ?_)
      dsimp only [jpush]
      refine e_icmp_ge 36 63 dX9_spells_33 (by decide) (by decide) (by decide) rfl (fun h => absurd h (by decide)) (fun _ => ?_)
      refine e_aload_n (i := 0) 37 dX9_spells_36 rfl rfl rfl ?_
      refine e_getr (j := 0) 40 fl_9_9 dX9_spells_37 at_883 rfl rfl tp_883_0 rfl ?_
      refine e_aload_n (i := 0) 41 dX9_spells_40 rfl rfl rfl ?_
      refine e_geti (j := 5) 44 fl_9_34 dX9_spells_41 at_883 (by decide) rfl rfl (fun r41 => ?_)
      refine e_iload_n (i := 2) 45 dX9_spells_44 rfl rfl rfl ?_
      refine e_iadd 46 dX9_spells_45 rfl ?_
      refine e_bald 47 dX9_spells_46 ar_884 (by omega) (by omega) rfl (fun r46 => ?_)
      simp only [e5, e84, Int.reduceAdd, Int.add_zero] at r46 ⊢
      refine e_aloadF_n (i := 1) 48 dX9_spells_47 rfl rfl rfl ?_
      refine e_iload_n (i := 2) 49 dX9_spells_48 rfl rfl rfl ?_
      refine e_callF (av := [jI _]) 52 (i := 9) (by decide) mt_yJ_charAt mv_yJ_charAt wd_569 (by decide) dX9_spells_49 rfl rfl rfl (Nat.le_of_ble_eq_true rfl) (jroom (by decide)) rfl (c_charAt (i := 9) (k := 0) (z := 115) (by decide) (by decide) (by decide +kernel) ?_)
      dsimp only [jpush]
      refine e_icmp_eq 55 57 dX9_spells_52 (by omega) (by decide) (by decide) rfl (fun b52 => ?_) (fun b52 => ?_)
      · skip
        refine e_iinc (lsn := [(2, _), (0, _), (1, _)]) 60 dX9_spells_57 rfl (by decide) rfl rfl ?_
        refine e_goto 28 dX9_spells_60 (by decide) ?_
        refine e_iload_n (i := 2) 29 dX9_spells_28 rfl rfl rfl ?_
        refine e_aloadF_n (i := 1) 30 dX9_spells_29 rfl rfl rfl ?_
        refine e_callF (av := []) 33 (i := 9) (by decide) mt_yJ_len mv_yJ_len wd_559 (by decide) dX9_spells_30 rfl rfl rfl (Nat.le_of_ble_eq_true rfl) (jroom (by decide)) rfl (c_strlen (i := 9) (z := 4) (by decide) (by decide) ?_)
        dsimp only [jpush]
        refine e_icmp_ge 36 63 dX9_spells_33 (by decide) (by decide) (by decide) rfl (fun h => absurd h (by decide)) (fun _ => ?_)
        refine e_aload_n (i := 0) 37 dX9_spells_36 rfl rfl rfl ?_
        refine e_getr (j := 0) 40 fl_9_9 dX9_spells_37 at_883 rfl rfl tp_883_0 rfl ?_
        refine e_aload_n (i := 0) 41 dX9_spells_40 rfl rfl rfl ?_
        refine e_geti (j := 5) 44 fl_9_34 dX9_spells_41 at_883 (by decide) rfl rfl (fun r41 => ?_)
        refine e_iload_n (i := 2) 45 dX9_spells_44 rfl rfl rfl ?_
        refine e_iadd 46 dX9_spells_45 rfl ?_
        refine e_bald 47 dX9_spells_46 ar_884 (by omega) (by omega) rfl (fun r46 => ?_)
        simp only [e5, e84, Int.reduceAdd, Int.add_zero] at r46 ⊢
        refine e_aloadF_n (i := 1) 48 dX9_spells_47 rfl rfl rfl ?_
        refine e_iload_n (i := 2) 49 dX9_spells_48 rfl rfl rfl ?_
        refine e_callF (av := [jI _]) 52 (i := 9) (by decide) mt_yJ_charAt mv_yJ_charAt wd_569 (by decide) dX9_spells_49 rfl rfl rfl (Nat.le_of_ble_eq_true rfl) (jroom (by decide)) rfl (c_charAt (i := 9) (k := 1) (z := 101) (by decide) (by decide) (by decide +kernel) ?_)
        dsimp only [jpush]
        refine e_icmp_eq 55 57 dX9_spells_52 (by omega) (by decide) (by decide) rfl (fun b52 => ?_) (fun b52 => ?_)
        · skip
          refine e_iinc (lsn := [(2, _), (0, _), (1, _)]) 60 dX9_spells_57 rfl (by decide) rfl rfl ?_
          refine e_goto 28 dX9_spells_60 (by decide) ?_
          refine e_iload_n (i := 2) 29 dX9_spells_28 rfl rfl rfl ?_
          refine e_aloadF_n (i := 1) 30 dX9_spells_29 rfl rfl rfl ?_
          refine e_callF (av := []) 33 (i := 9) (by decide) mt_yJ_len mv_yJ_len wd_559 (by decide) dX9_spells_30 rfl rfl rfl (Nat.le_of_ble_eq_true rfl) (jroom (by decide)) rfl (c_strlen (i := 9) (z := 4) (by decide) (by decide) ?_)
          dsimp only [jpush]
          refine e_icmp_ge 36 63 dX9_spells_33 (by decide) (by decide) (by decide) rfl (fun h => absurd h (by decide)) (fun _ => ?_)
          refine e_aload_n (i := 0) 37 dX9_spells_36 rfl rfl rfl ?_
          refine e_getr (j := 0) 40 fl_9_9 dX9_spells_37 at_883 rfl rfl tp_883_0 rfl ?_
          refine e_aload_n (i := 0) 41 dX9_spells_40 rfl rfl rfl ?_
          refine e_geti (j := 5) 44 fl_9_34 dX9_spells_41 at_883 (by decide) rfl rfl (fun r41 => ?_)
          refine e_iload_n (i := 2) 45 dX9_spells_44 rfl rfl rfl ?_
          refine e_iadd 46 dX9_spells_45 rfl ?_
          refine e_bald 47 dX9_spells_46 ar_884 (by omega) (by omega) rfl (fun r46 => ?_)
          simp only [e5, e84, Int.reduceAdd, Int.add_zero] at r46 ⊢
          refine e_aloadF_n (i := 1) 48 dX9_spells_47 rfl rfl rfl ?_
          refine e_iload_n (i := 2) 49 dX9_spells_48 rfl rfl rfl ?_
          refine e_callF (av := [jI _]) 52 (i := 9) (by decide) mt_yJ_charAt mv_yJ_charAt wd_569 (by decide) dX9_spells_49 rfl rfl rfl (Nat.le_of_ble_eq_true rfl) (jroom (by decide)) rfl (c_charAt (i := 9) (k := 2) (z := 101) (by decide) (by decide) (by decide +kernel) ?_)
          dsimp only [jpush]
          refine e_icmp_eq 55 57 dX9_spells_52 (by omega) (by decide) (by decide) rfl (fun b52 => ?_) (fun b52 => ?_)
          · skip
            refine e_iinc (lsn := [(2, _), (0, _), (1, _)]) 60 dX9_spells_57 rfl (by decide) rfl rfl ?_
            refine e_goto 28 dX9_spells_60 (by decide) ?_
            refine e_iload_n (i := 2) 29 dX9_spells_28 rfl rfl rfl ?_
            refine e_aloadF_n (i := 1) 30 dX9_spells_29 rfl rfl rfl ?_
            refine e_callF (av := []) 33 (i := 9) (by decide) mt_yJ_len mv_yJ_len wd_559 (by decide) dX9_spells_30 rfl rfl rfl (Nat.le_of_ble_eq_true rfl) (jroom (by decide)) rfl (c_strlen (i := 9) (z := 4) (by decide) (by decide) ?_)
            dsimp only [jpush]
            refine e_icmp_ge 36 63 dX9_spells_33 (by decide) (by decide) (by decide) rfl (fun h => absurd h (by decide)) (fun _ => ?_)
            refine e_aload_n (i := 0) 37 dX9_spells_36 rfl rfl rfl ?_
            refine e_getr (j := 0) 40 fl_9_9 dX9_spells_37 at_883 rfl rfl tp_883_0 rfl ?_
            refine e_aload_n (i := 0) 41 dX9_spells_40 rfl rfl rfl ?_
            refine e_geti (j := 5) 44 fl_9_34 dX9_spells_41 at_883 (by decide) rfl rfl (fun r41 => ?_)
            refine e_iload_n (i := 2) 45 dX9_spells_44 rfl rfl rfl ?_
            refine e_iadd 46 dX9_spells_45 rfl ?_
            refine e_bald 47 dX9_spells_46 ar_884 (by omega) (by omega) rfl (fun r46 => ?_)
            simp only [e5, e84, Int.reduceAdd, Int.add_zero] at r46 ⊢
            refine e_aloadF_n (i := 1) 48 dX9_spells_47 rfl rfl rfl ?_
            refine e_iload_n (i := 2) 49 dX9_spells_48 rfl rfl rfl ?_
            refine e_callF (av := [jI _]) 52 (i := 9) (by decide) mt_yJ_charAt mv_yJ_charAt wd_569 (by decide) dX9_spells_49 rfl rfl rfl (Nat.le_of_ble_eq_true rfl) (jroom (by decide)) rfl (c_charAt (i := 9) (k := 3) (z := 107) (by decide) (by decide) (by decide +kernel) ?_)
            dsimp only [jpush]
            refine e_icmp_eq 55 57 dX9_spells_52 (by omega) (by decide) (by decide) rfl (fun b52 => ?_) (fun b52 => ?_)
            · skip
              refine e_iinc (lsn := [(2, _), (0, _), (1, _)]) 60 dX9_spells_57 rfl (by decide) rfl rfl ?_
              refine e_goto 28 dX9_spells_60 (by decide) ?_
              refine e_iload_n (i := 2) 29 dX9_spells_28 rfl rfl rfl ?_
              refine e_aloadF_n (i := 1) 30 dX9_spells_29 rfl rfl rfl ?_
              refine e_callF (av := []) 33 (i := 9) (by decide) mt_yJ_len mv_yJ_len wd_559 (by decide) dX9_spells_30 rfl rfl rfl (Nat.le_of_ble_eq_true rfl) (jroom (by decide)) rfl (c_strlen (i := 9) (z := 4) (by decide) (by decide) ?_)
              dsimp only [jpush]
              refine e_icmp_ge 36 63 dX9_spells_33 (by decide) (by decide) (by decide) rfl (fun _ => ?_) (fun h => absurd h (by decide))
              refine e_iconst 64 dX9_spells_63 rfl ?_
              refine e_zret dX9_spells_64 (by decide) ?_
              first
                | (exfalso; omega)
                | (exact h1 (by
                     have hk := kw_9.mpr (show isW9 (M 931) s.1 s.2.1 by omega)
                     omega))
            · skip
              refine e_iconst 56 dX9_spells_55 rfl ?_
              refine e_zret dX9_spells_56 (by decide) ?_
              first
                | (exfalso; omega)
                | (exact h0 (fun q => by
                     have hk := kw_9.mp (show kx0 (M 931) s.1 s.2.1 = 9 by omega)
                     omega))
          · skip
            refine e_iconst 56 dX9_spells_55 rfl ?_
            refine e_zret dX9_spells_56 (by decide) ?_
            first
              | (exfalso; omega)
              | (exact h0 (fun q => by
                   have hk := kw_9.mp (show kx0 (M 931) s.1 s.2.1 = 9 by omega)
                   omega))
        · skip
          refine e_iconst 56 dX9_spells_55 rfl ?_
          refine e_zret dX9_spells_56 (by decide) ?_
          first
            | (exfalso; omega)
            | (exact h0 (fun q => by
                 have hk := kw_9.mp (show kx0 (M 931) s.1 s.2.1 = 9 by omega)
                 omega))
      · skip
        refine e_iconst 56 dX9_spells_55 rfl ?_
        refine e_zret dX9_spells_56 (by decide) ?_
        first
          | (exfalso; omega)
          | (exact h0 (fun q => by
               have hk := kw_9.mp (show kx0 (M 931) s.1 s.2.1 = 9 by omega)
               omega))
    · skip
      refine e_iconst 25 dX9_spells_24 rfl ?_
      refine e_zret dX9_spells_25 (by decide) ?_
      first
        | (exfalso; omega)
        | (exact h0 (fun q => by
             have hk := kw_9.mp (show kx0 (M 931) s.1 s.2.1 = 9 by omega)
             omega))

theorem c_spells_10 {M Z : jM} {n : Int} {Q : Int → jM → Prop} (hM : CM M n) {s : PS} (hZ : CTk M Z n s) (hI : PI n s) (h1 : s.2.2.1 = 10 → Q 1 Z) (h0 : s.2.2.1 ≠ 10 → Q 0 Z) : jCt yX9_spells cX9_spells 3 (some .boolean) 5 [jR 883, jF 16] Z Q := by
  refine jCt_of mt_yX9_spells (Nat.le_of_ble_eq_true rfl) (fun X => ?_)
  have e3 := hZ.2.2.2.1.1
  have e5 := hZ.2.2.2.1.2.1
  have eT := hZ.2.2.2.1.2.2
  have hi1 := hI.1
  have hi2 := hI.2.1
  have hn0 := hM.1
  have e84 : Z 884 = M 884 := hZ.1 884 (by omega)
  refine e_aload_n (i := 0) 1 dX9_spells_0 rfl rfl rfl ?_
  refine e_geti (j := 4) 4 fl_9_40 dX9_spells_1 at_883 (by decide) rfl rfl (fun r1 => ?_)
  refine e_iconst 5 dX9_spells_4 rfl ?_
  refine e_icmp_ne 8 24 dX9_spells_5 (by omega) (by decide) (by decide) rfl (fun b5 => ?_) (fun b5 => ?_)
  · skip
    refine e_iconst 25 dX9_spells_24 rfl ?_
    refine e_zret dX9_spells_25 (by decide) ?_
    first
      | (exfalso; omega)
      | (exact h0 (fun q => by
           have hk := kw_10.mp (show kx0 (M 931) s.1 s.2.1 = 10 by omega)
           omega))
  · skip
    refine e_aload_n (i := 0) 9 dX9_spells_8 rfl rfl rfl ?_
    refine e_geti (j := 3) 12 fl_9_28 dX9_spells_9 at_883 (by decide) rfl rfl (fun r9 => ?_)
    refine e_aload_n (i := 0) 13 dX9_spells_12 rfl rfl rfl ?_
    refine e_geti (j := 5) 16 fl_9_34 dX9_spells_13 at_883 (by decide) rfl rfl (fun r13 => ?_)
    refine e_isub 17 dX9_spells_16 rfl ?_
    refine e_aloadF_n (i := 1) 18 dX9_spells_17 rfl rfl rfl ?_
    refine e_callF (av := []) 21 (i := 10) (by decide) mt_yJ_len mv_yJ_len wd_559 (by decide) dX9_spells_18 rfl rfl rfl (Nat.le_of_ble_eq_true rfl) (jroom (by decide)) rfl (c_strlen (i := 10) (z := 2) (by decide) (by decide) ?_)
    dsimp only [jpush]
    refine e_icmp_eq 24 26 dX9_spells_21 (by omega) (by decide) (by decide) rfl (fun b21 => ?_) (fun b21 => ?_)
    · skip
      have y0 := hM.2 (s.1) (by omega) (by omega)
      have z0 := w8_c y0.1
      have x0 := y0.2
      have y1 := hM.2 (s.1 + 1) (by omega) (by omega)
      have z1 := w8_c y1.1
      have x1 := y1.2
      refine e_iconst 27 dX9_spells_26 rfl ?_
      refine e_istore_n (i := 2) (lsn := [(2, _), (0, _), (1, _)]) 28 dX9_spells_27 rfl (by decide) rfl rfl ?_
      refine e_iload_n (i := 2) 29 dX9_spells_28 rfl rfl rfl ?_
      refine e_aloadF_n (i := 1) 30 dX9_spells_29 rfl rfl rfl ?_
      refine e_callF (av := []) 33 (i := 10) (by decide) mt_yJ_len mv_yJ_len wd_559 (by decide) dX9_spells_30 rfl rfl rfl (Nat.le_of_ble_eq_true rfl) (jroom (by decide)) rfl (c_strlen (i := 10) (z := 2) (by decide) (by decide) ?_)
      dsimp only [jpush]
      refine e_icmp_ge 36 63 dX9_spells_33 (by decide) (by decide) (by decide) rfl (fun h => absurd h (by decide)) (fun _ => ?_)
      refine e_aload_n (i := 0) 37 dX9_spells_36 rfl rfl rfl ?_
      refine e_getr (j := 0) 40 fl_9_9 dX9_spells_37 at_883 rfl rfl tp_883_0 rfl ?_
      refine e_aload_n (i := 0) 41 dX9_spells_40 rfl rfl rfl ?_
      refine e_geti (j := 5) 44 fl_9_34 dX9_spells_41 at_883 (by decide) rfl rfl (fun r41 => ?_)
      refine e_iload_n (i := 2) 45 dX9_spells_44 rfl rfl rfl ?_
      refine e_iadd 46 dX9_spells_45 rfl ?_
      refine e_bald 47 dX9_spells_46 ar_884 (by omega) (by omega) rfl (fun r46 => ?_)
      simp only [e5, e84, Int.reduceAdd, Int.add_zero] at r46 ⊢
      refine e_aloadF_n (i := 1) 48 dX9_spells_47 rfl rfl rfl ?_
      refine e_iload_n (i := 2) 49 dX9_spells_48 rfl rfl rfl ?_
      refine e_callF (av := [jI _]) 52 (i := 10) (by decide) mt_yJ_charAt mv_yJ_charAt wd_569 (by decide) dX9_spells_49 rfl rfl rfl (Nat.le_of_ble_eq_true rfl) (jroom (by decide)) rfl (c_charAt (i := 10) (k := 0) (z := 105) (by decide) (by decide) (by decide +kernel) ?_)
      dsimp only [jpush]
      refine e_icmp_eq 55 57 dX9_spells_52 (by omega) (by decide) (by decide) rfl (fun b52 => ?_) (fun b52 => ?_)
      · skip
        refine e_iinc (lsn := [(2, _), (0, _), (1, _)]) 60 dX9_spells_57 rfl (by decide) rfl rfl ?_
        refine e_goto 28 dX9_spells_60 (by decide) ?_
        refine e_iload_n (i := 2) 29 dX9_spells_28 rfl rfl rfl ?_
        refine e_aloadF_n (i := 1) 30 dX9_spells_29 rfl rfl rfl ?_
        refine e_callF (av := []) 33 (i := 10) (by decide) mt_yJ_len mv_yJ_len wd_559 (by decide) dX9_spells_30 rfl rfl rfl (Nat.le_of_ble_eq_true rfl) (jroom (by decide)) rfl (c_strlen (i := 10) (z := 2) (by decide) (by decide) ?_)
        dsimp only [jpush]
        refine e_icmp_ge 36 63 dX9_spells_33 (by decide) (by decide) (by decide) rfl (fun h => absurd h (by decide)) (fun _ => ?_)
        refine e_aload_n (i := 0) 37 dX9_spells_36 rfl rfl rfl ?_
        refine e_getr (j := 0) 40 fl_9_9 dX9_spells_37 at_883 rfl rfl tp_883_0 rfl ?_
        refine e_aload_n (i := 0) 41 dX9_spells_40 rfl rfl rfl ?_
        refine e_geti (j := 5) 44 fl_9_34 dX9_spells_41 at_883 (by decide) rfl rfl (fun r41 => ?_)
        refine e_iload_n (i := 2) 45 dX9_spells_44 rfl rfl rfl ?_
        refine e_iadd 46 dX9_spells_45 rfl ?_
        refine e_bald 47 dX9_spells_46 ar_884 (by omega) (by omega) rfl (fun r46 => ?_)
        simp only [e5, e84, Int.reduceAdd, Int.add_zero] at r46 ⊢
        refine e_aloadF_n (i := 1) 48 dX9_spells_47 rfl rfl rfl ?_
        refine e_iload_n (i := 2) 49 dX9_spells_48 rfl rfl rfl ?_
        refine e_callF (av := [jI _]) 52 (i := 10) (by decide) mt_yJ_charAt mv_yJ_charAt wd_569 (by decide) dX9_spells_49 rfl rfl rfl (Nat.le_of_ble_eq_true rfl) (jroom (by decide)) rfl (c_charAt (i := 10) (k := 1) (z := 102) (by decide) (by decide) (by decide +kernel) ?_)
        dsimp only [jpush]
        refine e_icmp_eq 55 57 dX9_spells_52 (by omega) (by decide) (by decide) rfl (fun b52 => ?_) (fun b52 => ?_)
        · skip
          refine e_iinc (lsn := [(2, _), (0, _), (1, _)]) 60 dX9_spells_57 rfl (by decide) rfl rfl ?_
          refine e_goto 28 dX9_spells_60 (by decide) ?_
          refine e_iload_n (i := 2) 29 dX9_spells_28 rfl rfl rfl ?_
          refine e_aloadF_n (i := 1) 30 dX9_spells_29 rfl rfl rfl ?_
          refine e_callF (av := []) 33 (i := 10) (by decide) mt_yJ_len mv_yJ_len wd_559 (by decide) dX9_spells_30 rfl rfl rfl (Nat.le_of_ble_eq_true rfl) (jroom (by decide)) rfl (c_strlen (i := 10) (z := 2) (by decide) (by decide) ?_)
          dsimp only [jpush]
          refine e_icmp_ge 36 63 dX9_spells_33 (by decide) (by decide) (by decide) rfl (fun _ => ?_) (fun h => absurd h (by decide))
          refine e_iconst 64 dX9_spells_63 rfl ?_
          refine e_zret dX9_spells_64 (by decide) ?_
          first
            | (exfalso; omega)
            | (exact h1 (by
                 have hk := kw_10.mpr (show isW10 (M 931) s.1 s.2.1 by omega)
                 omega))
        · skip
          refine e_iconst 56 dX9_spells_55 rfl ?_
          refine e_zret dX9_spells_56 (by decide) ?_
          first
            | (exfalso; omega)
            | (exact h0 (fun q => by
                 have hk := kw_10.mp (show kx0 (M 931) s.1 s.2.1 = 10 by omega)
                 omega))
      · skip
        refine e_iconst 56 dX9_spells_55 rfl ?_
        refine e_zret dX9_spells_56 (by decide) ?_
        first
          | (exfalso; omega)
          | (exact h0 (fun q => by
               have hk := kw_10.mp (show kx0 (M 931) s.1 s.2.1 = 10 by omega)
               omega))
    · skip
      refine e_iconst 25 dX9_spells_24 rfl ?_
      refine e_zret dX9_spells_25 (by decide) ?_
      first
        | (exfalso; omega)
        | (exact h0 (fun q => by
             have hk := kw_10.mp (show kx0 (M 931) s.1 s.2.1 = 10 by omega)
             omega))

theorem c_spells_11 {M Z : jM} {n : Int} {Q : Int → jM → Prop} (hM : CM M n) {s : PS} (hZ : CTk M Z n s) (hI : PI n s) (h1 : s.2.2.1 = 11 → Q 1 Z) (h0 : s.2.2.1 ≠ 11 → Q 0 Z) : jCt yX9_spells cX9_spells 3 (some .boolean) 5 [jR 883, jF 25] Z Q := by
  refine jCt_of mt_yX9_spells (Nat.le_of_ble_eq_true rfl) (fun X => ?_)
  have e3 := hZ.2.2.2.1.1
  have e5 := hZ.2.2.2.1.2.1
  have eT := hZ.2.2.2.1.2.2
  have hi1 := hI.1
  have hi2 := hI.2.1
  have hn0 := hM.1
  have e84 : Z 884 = M 884 := hZ.1 884 (by omega)
  refine e_aload_n (i := 0) 1 dX9_spells_0 rfl rfl rfl ?_
  refine e_geti (j := 4) 4 fl_9_40 dX9_spells_1 at_883 (by decide) rfl rfl (fun r1 => ?_)
  refine e_iconst 5 dX9_spells_4 rfl ?_
  refine e_icmp_ne 8 24 dX9_spells_5 (by omega) (by decide) (by decide) rfl (fun b5 => ?_) (fun b5 => ?_)
  · skip
    refine e_iconst 25 dX9_spells_24 rfl ?_
    refine e_zret dX9_spells_25 (by decide) ?_
    first
      | (exfalso; omega)
      | (exact h0 (fun q => by
           have hk := kw_11.mp (show kx0 (M 931) s.1 s.2.1 = 11 by omega)
           omega))
  · skip
    refine e_aload_n (i := 0) 9 dX9_spells_8 rfl rfl rfl ?_
    refine e_geti (j := 3) 12 fl_9_28 dX9_spells_9 at_883 (by decide) rfl rfl (fun r9 => ?_)
    refine e_aload_n (i := 0) 13 dX9_spells_12 rfl rfl rfl ?_
    refine e_geti (j := 5) 16 fl_9_34 dX9_spells_13 at_883 (by decide) rfl rfl (fun r13 => ?_)
    refine e_isub 17 dX9_spells_16 rfl ?_
    refine e_aloadF_n (i := 1) 18 dX9_spells_17 rfl rfl rfl ?_
    refine e_callF (av := []) 21 (i := 19) (by decide) mt_yJ_len mv_yJ_len wd_559 (by decide) dX9_spells_18 rfl rfl rfl (Nat.le_of_ble_eq_true rfl) (jroom (by decide)) rfl (c_strlen (i := 19) (z := 2) (by decide) (by decide) ?_)
    dsimp only [jpush]
    refine e_icmp_eq 24 26 dX9_spells_21 (by omega) (by decide) (by decide) rfl (fun b21 => ?_) (fun b21 => ?_)
    · skip
      have y0 := hM.2 (s.1) (by omega) (by omega)
      have z0 := w8_c y0.1
      have x0 := y0.2
      have y1 := hM.2 (s.1 + 1) (by omega) (by omega)
      have z1 := w8_c y1.1
      have x1 := y1.2
      refine e_iconst 27 dX9_spells_26 rfl ?_
      refine e_istore_n (i := 2) (lsn := [(2, _), (0, _), (1, _)]) 28 dX9_spells_27 rfl (by decide) rfl rfl ?_
      refine e_iload_n (i := 2) 29 dX9_spells_28 rfl rfl rfl ?_
      refine e_aloadF_n (i := 1) 30 dX9_spells_29 rfl rfl rfl ?_
      refine e_callF (av := []) 33 (i := 19) (by decide) mt_yJ_len mv_yJ_len wd_559 (by decide) dX9_spells_30 rfl rfl rfl (Nat.le_of_ble_eq_true rfl) (jroom (by decide)) rfl (c_strlen (i := 19) (z := 2) (by decide) (by decide) ?_)
      dsimp only [jpush]
      refine e_icmp_ge 36 63 dX9_spells_33 (by decide) (by decide) (by decide) rfl (fun h => absurd h (by decide)) (fun _ => ?_)
      refine e_aload_n (i := 0) 37 dX9_spells_36 rfl rfl rfl ?_
      refine e_getr (j := 0) 40 fl_9_9 dX9_spells_37 at_883 rfl rfl tp_883_0 rfl ?_
      refine e_aload_n (i := 0) 41 dX9_spells_40 rfl rfl rfl ?_
      refine e_geti (j := 5) 44 fl_9_34 dX9_spells_41 at_883 (by decide) rfl rfl (fun r41 => ?_)
      refine e_iload_n (i := 2) 45 dX9_spells_44 rfl rfl rfl ?_
      refine e_iadd 46 dX9_spells_45 rfl ?_
      refine e_bald 47 dX9_spells_46 ar_884 (by omega) (by omega) rfl (fun r46 => ?_)
      simp only [e5, e84, Int.reduceAdd, Int.add_zero] at r46 ⊢
      refine e_aloadF_n (i := 1) 48 dX9_spells_47 rfl rfl rfl ?_
      refine e_iload_n (i := 2) 49 dX9_spells_48 rfl rfl rfl ?_
      refine e_callF (av := [jI _]) 52 (i := 19) (by decide) mt_yJ_charAt mv_yJ_charAt wd_569 (by decide) dX9_spells_49 rfl rfl rfl (Nat.le_of_ble_eq_true rfl) (jroom (by decide)) rfl (c_charAt (i := 19) (k := 0) (z := 111) (by decide) (by decide) (by decide +kernel) ?_)
      dsimp only [jpush]
      refine e_icmp_eq 55 57 dX9_spells_52 (by omega) (by decide) (by decide) rfl (fun b52 => ?_) (fun b52 => ?_)
      · skip
        refine e_iinc (lsn := [(2, _), (0, _), (1, _)]) 60 dX9_spells_57 rfl (by decide) rfl rfl ?_
        refine e_goto 28 dX9_spells_60 (by decide) ?_
        refine e_iload_n (i := 2) 29 dX9_spells_28 rfl rfl rfl ?_
        refine e_aloadF_n (i := 1) 30 dX9_spells_29 rfl rfl rfl ?_
        refine e_callF (av := []) 33 (i := 19) (by decide) mt_yJ_len mv_yJ_len wd_559 (by decide) dX9_spells_30 rfl rfl rfl (Nat.le_of_ble_eq_true rfl) (jroom (by decide)) rfl (c_strlen (i := 19) (z := 2) (by decide) (by decide) ?_)
        dsimp only [jpush]
        refine e_icmp_ge 36 63 dX9_spells_33 (by decide) (by decide) (by decide) rfl (fun h => absurd h (by decide)) (fun _ => ?_)
        refine e_aload_n (i := 0) 37 dX9_spells_36 rfl rfl rfl ?_
        refine e_getr (j := 0) 40 fl_9_9 dX9_spells_37 at_883 rfl rfl tp_883_0 rfl ?_
        refine e_aload_n (i := 0) 41 dX9_spells_40 rfl rfl rfl ?_
        refine e_geti (j := 5) 44 fl_9_34 dX9_spells_41 at_883 (by decide) rfl rfl (fun r41 => ?_)
        refine e_iload_n (i := 2) 45 dX9_spells_44 rfl rfl rfl ?_
        refine e_iadd 46 dX9_spells_45 rfl ?_
        refine e_bald 47 dX9_spells_46 ar_884 (by omega) (by omega) rfl (fun r46 => ?_)
        simp only [e5, e84, Int.reduceAdd, Int.add_zero] at r46 ⊢
        refine e_aloadF_n (i := 1) 48 dX9_spells_47 rfl rfl rfl ?_
        refine e_iload_n (i := 2) 49 dX9_spells_48 rfl rfl rfl ?_
        refine e_callF (av := [jI _]) 52 (i := 19) (by decide) mt_yJ_charAt mv_yJ_charAt wd_569 (by decide) dX9_spells_49 rfl rfl rfl (Nat.le_of_ble_eq_true rfl) (jroom (by decide)) rfl (c_charAt (i := 19) (k := 1) (z := 114) (by decide) (by decide) (by decide +kernel) ?_)
        dsimp only [jpush]
        refine e_icmp_eq 55 57 dX9_spells_52 (by omega) (by decide) (by decide) rfl (fun b52 => ?_) (fun b52 => ?_)
        · skip
          refine e_iinc (lsn := [(2, _), (0, _), (1, _)]) 60 dX9_spells_57 rfl (by decide) rfl rfl ?_
          refine e_goto 28 dX9_spells_60 (by decide) ?_
          refine e_iload_n (i := 2) 29 dX9_spells_28 rfl rfl rfl ?_
          refine e_aloadF_n (i := 1) 30 dX9_spells_29 rfl rfl rfl ?_
          refine e_callF (av := []) 33 (i := 19) (by decide) mt_yJ_len mv_yJ_len wd_559 (by decide) dX9_spells_30 rfl rfl rfl (Nat.le_of_ble_eq_true rfl) (jroom (by decide)) rfl (c_strlen (i := 19) (z := 2) (by decide) (by decide) ?_)
          dsimp only [jpush]
          refine e_icmp_ge 36 63 dX9_spells_33 (by decide) (by decide) (by decide) rfl (fun _ => ?_) (fun h => absurd h (by decide))
          refine e_iconst 64 dX9_spells_63 rfl ?_
          refine e_zret dX9_spells_64 (by decide) ?_
          first
            | (exfalso; omega)
            | (exact h1 (by
                 have hk := kw_11.mpr (show isW11 (M 931) s.1 s.2.1 by omega)
                 omega))
        · skip
          refine e_iconst 56 dX9_spells_55 rfl ?_
          refine e_zret dX9_spells_56 (by decide) ?_
          first
            | (exfalso; omega)
            | (exact h0 (fun q => by
                 have hk := kw_11.mp (show kx0 (M 931) s.1 s.2.1 = 11 by omega)
                 omega))
      · skip
        refine e_iconst 56 dX9_spells_55 rfl ?_
        refine e_zret dX9_spells_56 (by decide) ?_
        first
          | (exfalso; omega)
          | (exact h0 (fun q => by
               have hk := kw_11.mp (show kx0 (M 931) s.1 s.2.1 = 11 by omega)
               omega))
    · skip
      refine e_iconst 25 dX9_spells_24 rfl ?_
      refine e_zret dX9_spells_25 (by decide) ?_
      first
        | (exfalso; omega)
        | (exact h0 (fun q => by
             have hk := kw_11.mp (show kx0 (M 931) s.1 s.2.1 = 11 by omega)
             omega))

theorem c_spells_12 {M Z : jM} {n : Int} {Q : Int → jM → Prop} (hM : CM M n) {s : PS} (hZ : CTk M Z n s) (hI : PI n s) (h1 : s.2.2.1 = 12 → Q 1 Z) (h0 : s.2.2.1 ≠ 12 → Q 0 Z) : jCt yX9_spells cX9_spells 3 (some .boolean) 5 [jR 883, jF 24] Z Q := by
  refine jCt_of mt_yX9_spells (Nat.le_of_ble_eq_true rfl) (fun X => ?_)
  have e3 := hZ.2.2.2.1.1
  have e5 := hZ.2.2.2.1.2.1
  have eT := hZ.2.2.2.1.2.2
  have hi1 := hI.1
  have hi2 := hI.2.1
  have hn0 := hM.1
  have e84 : Z 884 = M 884 := hZ.1 884 (by omega)
  refine e_aload_n (i := 0) 1 dX9_spells_0 rfl rfl rfl ?_
  refine e_geti (j := 4) 4 fl_9_40 dX9_spells_1 at_883 (by decide) rfl rfl (fun r1 => ?_)
  refine e_iconst 5 dX9_spells_4 rfl ?_
  refine e_icmp_ne 8 24 dX9_spells_5 (by omega) (by decide) (by decide) rfl (fun b5 => ?_) (fun b5 => ?_)
  · skip
    refine e_iconst 25 dX9_spells_24 rfl ?_
    refine e_zret dX9_spells_25 (by decide) ?_
    first
      | (exfalso; omega)
      | (exact h0 (fun q => by
           have hk := kw_12.mp (show kx0 (M 931) s.1 s.2.1 = 12 by omega)
           omega))
  · skip
    refine e_aload_n (i := 0) 9 dX9_spells_8 rfl rfl rfl ?_
    refine e_geti (j := 3) 12 fl_9_28 dX9_spells_9 at_883 (by decide) rfl rfl (fun r9 => ?_)
    refine e_aload_n (i := 0) 13 dX9_spells_12 rfl rfl rfl ?_
    refine e_geti (j := 5) 16 fl_9_34 dX9_spells_13 at_883 (by decide) rfl rfl (fun r13 => ?_)
    refine e_isub 17 dX9_spells_16 rfl ?_
    refine e_aloadF_n (i := 1) 18 dX9_spells_17 rfl rfl rfl ?_
    refine e_callF (av := []) 21 (i := 18) (by decide) mt_yJ_len mv_yJ_len wd_559 (by decide) dX9_spells_18 rfl rfl rfl (Nat.le_of_ble_eq_true rfl) (jroom (by decide)) rfl (c_strlen (i := 18) (z := 3) (by decide) (by decide) ?_)
    dsimp only [jpush]
    refine e_icmp_eq 24 26 dX9_spells_21 (by omega) (by decide) (by decide) rfl (fun b21 => ?_) (fun b21 => ?_)
    · skip
      have y0 := hM.2 (s.1) (by omega) (by omega)
      have z0 := w8_c y0.1
      have x0 := y0.2
      have y1 := hM.2 (s.1 + 1) (by omega) (by omega)
      have z1 := w8_c y1.1
      have x1 := y1.2
      have y2 := hM.2 (s.1 + 2) (by omega) (by omega)
      have z2 := w8_c y2.1
      have x2 := y2.2
      refine e_iconst 27 dX9_spells_26 rfl ?_
      refine e_istore_n (i := 2) (lsn := [(2, _), (0, _), (1, _)]) 28 dX9_spells_27 rfl (by decide) rfl rfl ?_
      refine e_iload_n (i := 2) 29 dX9_spells_28 rfl rfl rfl ?_
      refine e_aloadF_n (i := 1) 30 dX9_spells_29 rfl rfl rfl ?_
      refine e_callF (av := []) 33 (i := 18) (by decide) mt_yJ_len mv_yJ_len wd_559 (by decide) dX9_spells_30 rfl rfl rfl (Nat.le_of_ble_eq_true rfl) (jroom (by decide)) rfl (c_strlen (i := 18) (z := 3) (by decide) (by decide) ?_)
      dsimp only [jpush]
      refine e_icmp_ge 36 63 dX9_spells_33 (by decide) (by decide) (by decide) rfl (fun h => absurd h (by decide)) (fun _ => ?_)
      refine e_aload_n (i := 0) 37 dX9_spells_36 rfl rfl rfl ?_
      refine e_getr (j := 0) 40 fl_9_9 dX9_spells_37 at_883 rfl rfl tp_883_0 rfl ?_
      refine e_aload_n (i := 0) 41 dX9_spells_40 rfl rfl rfl ?_
      refine e_geti (j := 5) 44 fl_9_34 dX9_spells_41 at_883 (by decide) rfl rfl (fun r41 => ?_)
      refine e_iload_n (i := 2) 45 dX9_spells_44 rfl rfl rfl ?_
      refine e_iadd 46 dX9_spells_45 rfl ?_
      refine e_bald 47 dX9_spells_46 ar_884 (by omega) (by omega) rfl (fun r46 => ?_)
      simp only [e5, e84, Int.reduceAdd, Int.add_zero] at r46 ⊢
      refine e_aloadF_n (i := 1) 48 dX9_spells_47 rfl rfl rfl ?_
      refine e_iload_n (i := 2) 49 dX9_spells_48 rfl rfl rfl ?_
      refine e_callF (av := [jI _]) 52 (i := 18) (by decide) mt_yJ_charAt mv_yJ_charAt wd_569 (by decide) dX9_spells_49 rfl rfl rfl (Nat.le_of_ble_eq_true rfl) (jroom (by decide)) rfl (c_charAt (i := 18) (k := 0) (z := 97) (by decide) (by decide) (by decide +kernel) ?_)
      dsimp only [jpush]
      refine e_icmp_eq 55 57 dX9_spells_52 (by omega) (by decide) (by decide) rfl (fun b52 => ?_) (fun b52 => ?_)
      · skip
        refine e_iinc (lsn := [(2, _), (0, _), (1, _)]) 60 dX9_spells_57 rfl (by decide) rfl rfl ?_
        refine e_goto 28 dX9_spells_60 (by decide) ?_
        refine e_iload_n (i := 2) 29 dX9_spells_28 rfl rfl rfl ?_
        refine e_aloadF_n (i := 1) 30 dX9_spells_29 rfl rfl rfl ?_
        refine e_callF (av := []) 33 (i := 18) (by decide) mt_yJ_len mv_yJ_len wd_559 (by decide) dX9_spells_30 rfl rfl rfl (Nat.le_of_ble_eq_true rfl) (jroom (by decide)) rfl (c_strlen (i := 18) (z := 3) (by decide) (by decide) ?_)
        dsimp only [jpush]
        refine e_icmp_ge 36 63 dX9_spells_33 (by decide) (by decide) (by decide) rfl (fun h => absurd h (by decide)) (fun _ => ?_)
        refine e_aload_n (i := 0) 37 dX9_spells_36 rfl rfl rfl ?_
        refine e_getr (j := 0) 40 fl_9_9 dX9_spells_37 at_883 rfl rfl tp_883_0 rfl ?_
        refine e_aload_n (i := 0) 41 dX9_spells_40 rfl rfl rfl ?_
        refine e_geti (j := 5) 44 fl_9_34 dX9_spells_41 at_883 (by decide) rfl rfl (fun r41 => ?_)
        refine e_iload_n (i := 2) 45 dX9_spells_44 rfl rfl rfl ?_
        refine e_iadd 46 dX9_spells_45 rfl ?_
        refine e_bald 47 dX9_spells_46 ar_884 (by omega) (by omega) rfl (fun r46 => ?_)
        simp only [e5, e84, Int.reduceAdd, Int.add_zero] at r46 ⊢
        refine e_aloadF_n (i := 1) 48 dX9_spells_47 rfl rfl rfl ?_
        refine e_iload_n (i := 2) 49 dX9_spells_48 rfl rfl rfl ?_
        refine e_callF (av := [jI _]) 52 (i := 18) (by decide) mt_yJ_charAt mv_yJ_charAt wd_569 (by decide) dX9_spells_49 rfl rfl rfl (Nat.le_of_ble_eq_true rfl) (jroom (by decide)) rfl (c_charAt (i := 18) (k := 1) (z := 110) (by decide) (by decide) (by decide +kernel) ?_)
        dsimp only [jpush]
        refine e_icmp_eq 55 57 dX9_spells_52 (by omega) (by decide) (by decide) rfl (fun b52 => ?_) (fun b52 => ?_)
        · skip
          refine e_iinc (lsn := [(2, _), (0, _), (1, _)]) 60 dX9_spells_57 rfl (by decide) rfl rfl ?_
          refine e_goto 28 dX9_spells_60 (by decide) ?_
          refine e_iload_n (i := 2) 29 dX9_spells_28 rfl rfl rfl ?_
          refine e_aloadF_n (i := 1) 30 dX9_spells_29 rfl rfl rfl ?_
          refine e_callF (av := []) 33 (i := 18) (by decide) mt_yJ_len mv_yJ_len wd_559 (by decide) dX9_spells_30 rfl rfl rfl (Nat.le_of_ble_eq_true rfl) (jroom (by decide)) rfl (c_strlen (i := 18) (z := 3) (by decide) (by decide) ?_)
          dsimp only [jpush]
          refine e_icmp_ge 36 63 dX9_spells_33 (by decide) (by decide) (by decide) rfl (fun h => absurd h (by decide)) (fun _ => ?_)
          refine e_aload_n (i := 0) 37 dX9_spells_36 rfl rfl rfl ?_
          refine e_getr (j := 0) 40 fl_9_9 dX9_spells_37 at_883 rfl rfl tp_883_0 rfl ?_
          refine e_aload_n (i := 0) 41 dX9_spells_40 rfl rfl rfl ?_
          refine e_geti (j := 5) 44 fl_9_34 dX9_spells_41 at_883 (by decide) rfl rfl (fun r41 => ?_)
          refine e_iload_n (i := 2) 45 dX9_spells_44 rfl rfl rfl ?_
          refine e_iadd 46 dX9_spells_45 rfl ?_
          refine e_bald 47 dX9_spells_46 ar_884 (by omega) (by omega) rfl (fun r46 => ?_)
          simp only [e5, e84, Int.reduceAdd, Int.add_zero] at r46 ⊢
          refine e_aloadF_n (i := 1) 48 dX9_spells_47 rfl rfl rfl ?_
          refine e_iload_n (i := 2) 49 dX9_spells_48 rfl rfl rfl ?_
          refine e_callF (av := [jI _]) 52 (i := 18) (by decide) mt_yJ_charAt mv_yJ_charAt wd_569 (by decide) dX9_spells_49 rfl rfl rfl (Nat.le_of_ble_eq_true rfl) (jroom (by decide)) rfl (c_charAt (i := 18) (k := 2) (z := 100) (by decide) (by decide) (by decide +kernel) ?_)
          dsimp only [jpush]
          refine e_icmp_eq 55 57 dX9_spells_52 (by omega) (by decide) (by decide) rfl (fun b52 => ?_) (fun b52 => ?_)
          · skip
            refine e_iinc (lsn := [(2, _), (0, _), (1, _)]) 60 dX9_spells_57 rfl (by decide) rfl rfl ?_
            refine e_goto 28 dX9_spells_60 (by decide) ?_
            refine e_iload_n (i := 2) 29 dX9_spells_28 rfl rfl rfl ?_
            refine e_aloadF_n (i := 1) 30 dX9_spells_29 rfl rfl rfl ?_
            refine e_callF (av := []) 33 (i := 18) (by decide) mt_yJ_len mv_yJ_len wd_559 (by decide) dX9_spells_30 rfl rfl rfl (Nat.le_of_ble_eq_true rfl) (jroom (by decide)) rfl (c_strlen (i := 18) (z := 3) (by decide) (by decide) ?_)
            dsimp only [jpush]
            refine e_icmp_ge 36 63 dX9_spells_33 (by decide) (by decide) (by decide) rfl (fun _ => ?_) (fun h => absurd h (by decide))
            refine e_iconst 64 dX9_spells_63 rfl ?_
            refine e_zret dX9_spells_64 (by decide) ?_
            first
              | (exfalso; omega)
              | (exact h1 (by
                   have hk := kw_12.mpr (show isW12 (M 931) s.1 s.2.1 by omega)
                   omega))
          · skip
            refine e_iconst 56 dX9_spells_55 rfl ?_
            refine e_zret dX9_spells_56 (by decide) ?_
            first
              | (exfalso; omega)
              | (exact h0 (fun q => by
                   have hk := kw_12.mp (show kx0 (M 931) s.1 s.2.1 = 12 by omega)
                   omega))
        · skip
          refine e_iconst 56 dX9_spells_55 rfl ?_
          refine e_zret dX9_spells_56 (by decide) ?_
          first
            | (exfalso; omega)
            | (exact h0 (fun q => by
                 have hk := kw_12.mp (show kx0 (M 931) s.1 s.2.1 = 12 by omega)
                 omega))
      · skip
        refine e_iconst 56 dX9_spells_55 rfl ?_
        refine e_zret dX9_spells_56 (by decide) ?_
        first
          | (exfalso; omega)
          | (exact h0 (fun q => by
               have hk := kw_12.mp (show kx0 (M 931) s.1 s.2.1 = 12 by omega)
               omega))
    · skip
      refine e_iconst 25 dX9_spells_24 rfl ?_
      refine e_zret dX9_spells_25 (by decide) ?_
      first
        | (exfalso; omega)
        | (exact h0 (fun q => by
             have hk := kw_12.mp (show kx0 (M 931) s.1 s.2.1 = 12 by omega)
             omega))

theorem c_spells_13 {M Z : jM} {n : Int} {Q : Int → jM → Prop} (hM : CM M n) {s : PS} (hZ : CTk M Z n s) (hI : PI n s) (h1 : s.2.2.1 = 13 → Q 1 Z) (h0 : s.2.2.1 ≠ 13 → Q 0 Z) : jCt yX9_spells cX9_spells 3 (some .boolean) 5 [jR 883, jF 17] Z Q := by
  refine jCt_of mt_yX9_spells (Nat.le_of_ble_eq_true rfl) (fun X => ?_)
  have e3 := hZ.2.2.2.1.1
  have e5 := hZ.2.2.2.1.2.1
  have eT := hZ.2.2.2.1.2.2
  have hi1 := hI.1
  have hi2 := hI.2.1
  have hn0 := hM.1
  have e84 : Z 884 = M 884 := hZ.1 884 (by omega)
  refine e_aload_n (i := 0) 1 dX9_spells_0 rfl rfl rfl ?_
  refine e_geti (j := 4) 4 fl_9_40 dX9_spells_1 at_883 (by decide) rfl rfl (fun r1 => ?_)
  refine e_iconst 5 dX9_spells_4 rfl ?_
  refine e_icmp_ne 8 24 dX9_spells_5 (by omega) (by decide) (by decide) rfl (fun b5 => ?_) (fun b5 => ?_)
  · skip
    refine e_iconst 25 dX9_spells_24 rfl ?_
    refine e_zret dX9_spells_25 (by decide) ?_
    first
      | (exfalso; omega)
      | (exact h0 (fun q => by
           have hk := kw_13.mp (show kx0 (M 931) s.1 s.2.1 = 13 by omega)
           omega))
  · skip
    refine e_aload_n (i := 0) 9 dX9_spells_8 rfl rfl rfl ?_
    refine e_geti (j := 3) 12 fl_9_28 dX9_spells_9 at_883 (by decide) rfl rfl (fun r9 => ?_)
    refine e_aload_n (i := 0) 13 dX9_spells_12 rfl rfl rfl ?_
    refine e_geti (j := 5) 16 fl_9_34 dX9_spells_13 at_883 (by decide) rfl rfl (fun r13 => ?_)
    refine e_isub 17 dX9_spells_16 rfl ?_
    refine e_aloadF_n (i := 1) 18 dX9_spells_17 rfl rfl rfl ?_
    refine e_callF (av := []) 21 (i := 11) (by decide) mt_yJ_len mv_yJ_len wd_559 (by decide) dX9_spells_18 rfl rfl rfl (Nat.le_of_ble_eq_true rfl) (jroom (by decide)) rfl (c_strlen (i := 11) (z := 3) (by decide) (by decide) ?_)
    dsimp only [jpush]
    refine e_icmp_eq 24 26 dX9_spells_21 (by omega) (by decide) (by decide) rfl (fun b21 => ?_) (fun b21 => ?_)
    · skip
      have y0 := hM.2 (s.1) (by omega) (by omega)
      have z0 := w8_c y0.1
      have x0 := y0.2
      have y1 := hM.2 (s.1 + 1) (by omega) (by omega)
      have z1 := w8_c y1.1
      have x1 := y1.2
      have y2 := hM.2 (s.1 + 2) (by omega) (by omega)
      have z2 := w8_c y2.1
      have x2 := y2.2
      refine e_iconst 27 dX9_spells_26 rfl ?_
      refine e_istore_n (i := 2) (lsn := [(2, _), (0, _), (1, _)]) 28 dX9_spells_27 rfl (by decide) rfl rfl ?_
      refine e_iload_n (i := 2) 29 dX9_spells_28 rfl rfl rfl ?_
      refine e_aloadF_n (i := 1) 30 dX9_spells_29 rfl rfl rfl ?_
      refine e_callF (av := []) 33 (i := 11) (by decide) mt_yJ_len mv_yJ_len wd_559 (by decide) dX9_spells_30 rfl rfl rfl (Nat.le_of_ble_eq_true rfl) (jroom (by decide)) rfl (c_strlen (i := 11) (z := 3) (by decide) (by decide) ?_)
      dsimp only [jpush]
      refine e_icmp_ge 36 63 dX9_spells_33 (by decide) (by decide) (by decide) rfl (fun h => absurd h (by decide)) (fun _ => ?_)
      refine e_aload_n (i := 0) 37 dX9_spells_36 rfl rfl rfl ?_
      refine e_getr (j := 0) 40 fl_9_9 dX9_spells_37 at_883 rfl rfl tp_883_0 rfl ?_
      refine e_aload_n (i := 0) 41 dX9_spells_40 rfl rfl rfl ?_
      refine e_geti (j := 5) 44 fl_9_34 dX9_spells_41 at_883 (by decide) rfl rfl (fun r41 => ?_)
      refine e_iload_n (i := 2) 45 dX9_spells_44 rfl rfl rfl ?_
      refine e_iadd 46 dX9_spells_45 rfl ?_
      refine e_bald 47 dX9_spells_46 ar_884 (by omega) (by omega) rfl (fun r46 => ?_)
      simp only [e5, e84, Int.reduceAdd, Int.add_zero] at r46 ⊢
      refine e_aloadF_n (i := 1) 48 dX9_spells_47 rfl rfl rfl ?_
      refine e_iload_n (i := 2) 49 dX9_spells_48 rfl rfl rfl ?_
      refine e_callF (av := [jI _]) 52 (i := 11) (by decide) mt_yJ_charAt mv_yJ_charAt wd_569 (by decide) dX9_spells_49 rfl rfl rfl (Nat.le_of_ble_eq_true rfl) (jroom (by decide)) rfl (c_charAt (i := 11) (k := 0) (z := 110) (by decide) (by decide) (by decide +kernel) ?_)
      dsimp only [jpush]
      refine e_icmp_eq 55 57 dX9_spells_52 (by omega) (by decide) (by decide) rfl (fun b52 => ?_) (fun b52 => ?_)
      · skip
        refine e_iinc (lsn := [(2, _), (0, _), (1, _)]) 60 dX9_spells_57 rfl (by decide) rfl rfl ?_
        refine e_goto 28 dX9_spells_60 (by decide) ?_
        refine e_iload_n (i := 2) 29 dX9_spells_28 rfl rfl rfl ?_
        refine e_aloadF_n (i := 1) 30 dX9_spells_29 rfl rfl rfl ?_
        refine e_callF (av := []) 33 (i := 11) (by decide) mt_yJ_len mv_yJ_len wd_559 (by decide) dX9_spells_30 rfl rfl rfl (Nat.le_of_ble_eq_true rfl) (jroom (by decide)) rfl (c_strlen (i := 11) (z := 3) (by decide) (by decide) ?_)
        dsimp only [jpush]
        refine e_icmp_ge 36 63 dX9_spells_33 (by decide) (by decide) (by decide) rfl (fun h => absurd h (by decide)) (fun _ => ?_)
        refine e_aload_n (i := 0) 37 dX9_spells_36 rfl rfl rfl ?_
        refine e_getr (j := 0) 40 fl_9_9 dX9_spells_37 at_883 rfl rfl tp_883_0 rfl ?_
        refine e_aload_n (i := 0) 41 dX9_spells_40 rfl rfl rfl ?_
        refine e_geti (j := 5) 44 fl_9_34 dX9_spells_41 at_883 (by decide) rfl rfl (fun r41 => ?_)
        refine e_iload_n (i := 2) 45 dX9_spells_44 rfl rfl rfl ?_
        refine e_iadd 46 dX9_spells_45 rfl ?_
        refine e_bald 47 dX9_spells_46 ar_884 (by omega) (by omega) rfl (fun r46 => ?_)
        simp only [e5, e84, Int.reduceAdd, Int.add_zero] at r46 ⊢
        refine e_aloadF_n (i := 1) 48 dX9_spells_47 rfl rfl rfl ?_
        refine e_iload_n (i := 2) 49 dX9_spells_48 rfl rfl rfl ?_
        refine e_callF (av := [jI _]) 52 (i := 11) (by decide) mt_yJ_charAt mv_yJ_charAt wd_569 (by decide) dX9_spells_49 rfl rfl rfl (Nat.le_of_ble_eq_true rfl) (jroom (by decide)) rfl (c_charAt (i := 11) (k := 1) (z := 111) (by decide) (by decide) (by decide +kernel) ?_)
        dsimp only [jpush]
        refine e_icmp_eq 55 57 dX9_spells_52 (by omega) (by decide) (by decide) rfl (fun b52 => ?_) (fun b52 => ?_)
        · skip
          refine e_iinc (lsn := [(2, _), (0, _), (1, _)]) 60 dX9_spells_57 rfl (by decide) rfl rfl ?_
          refine e_goto 28 dX9_spells_60 (by decide) ?_
          refine e_iload_n (i := 2) 29 dX9_spells_28 rfl rfl rfl ?_
          refine e_aloadF_n (i := 1) 30 dX9_spells_29 rfl rfl rfl ?_
          refine e_callF (av := []) 33 (i := 11) (by decide) mt_yJ_len mv_yJ_len wd_559 (by decide) dX9_spells_30 rfl rfl rfl (Nat.le_of_ble_eq_true rfl) (jroom (by decide)) rfl (c_strlen (i := 11) (z := 3) (by decide) (by decide) ?_)
          dsimp only [jpush]
          refine e_icmp_ge 36 63 dX9_spells_33 (by decide) (by decide) (by decide) rfl (fun h => absurd h (by decide)) (fun _ => ?_)
          refine e_aload_n (i := 0) 37 dX9_spells_36 rfl rfl rfl ?_
          refine e_getr (j := 0) 40 fl_9_9 dX9_spells_37 at_883 rfl rfl tp_883_0 rfl ?_
          refine e_aload_n (i := 0) 41 dX9_spells_40 rfl rfl rfl ?_
          refine e_geti (j := 5) 44 fl_9_34 dX9_spells_41 at_883 (by decide) rfl rfl (fun r41 => ?_)
          refine e_iload_n (i := 2) 45 dX9_spells_44 rfl rfl rfl ?_
          refine e_iadd 46 dX9_spells_45 rfl ?_
          refine e_bald 47 dX9_spells_46 ar_884 (by omega) (by omega) rfl (fun r46 => ?_)
          simp only [e5, e84, Int.reduceAdd, Int.add_zero] at r46 ⊢
          refine e_aloadF_n (i := 1) 48 dX9_spells_47 rfl rfl rfl ?_
          refine e_iload_n (i := 2) 49 dX9_spells_48 rfl rfl rfl ?_
          refine e_callF (av := [jI _]) 52 (i := 11) (by decide) mt_yJ_charAt mv_yJ_charAt wd_569 (by decide) dX9_spells_49 rfl rfl rfl (Nat.le_of_ble_eq_true rfl) (jroom (by decide)) rfl (c_charAt (i := 11) (k := 2) (z := 116) (by decide) (by decide) (by decide +kernel) ?_)
          dsimp only [jpush]
          refine e_icmp_eq 55 57 dX9_spells_52 (by omega) (by decide) (by decide) rfl (fun b52 => ?_) (fun b52 => ?_)
          · skip
            refine e_iinc (lsn := [(2, _), (0, _), (1, _)]) 60 dX9_spells_57 rfl (by decide) rfl rfl ?_
            refine e_goto 28 dX9_spells_60 (by decide) ?_
            refine e_iload_n (i := 2) 29 dX9_spells_28 rfl rfl rfl ?_
            refine e_aloadF_n (i := 1) 30 dX9_spells_29 rfl rfl rfl ?_
            refine e_callF (av := []) 33 (i := 11) (by decide) mt_yJ_len mv_yJ_len wd_559 (by decide) dX9_spells_30 rfl rfl rfl (Nat.le_of_ble_eq_true rfl) (jroom (by decide)) rfl (c_strlen (i := 11) (z := 3) (by decide) (by decide) ?_)
            dsimp only [jpush]
            refine e_icmp_ge 36 63 dX9_spells_33 (by decide) (by decide) (by decide) rfl (fun _ => ?_) (fun h => absurd h (by decide))
            refine e_iconst 64 dX9_spells_63 rfl ?_
            refine e_zret dX9_spells_64 (by decide) ?_
            first
              | (exfalso; omega)
              | (exact h1 (by
                   have hk := kw_13.mpr (show isW13 (M 931) s.1 s.2.1 by omega)
                   omega))
          · skip
            refine e_iconst 56 dX9_spells_55 rfl ?_
            refine e_zret dX9_spells_56 (by decide) ?_
            first
              | (exfalso; omega)
              | (exact h0 (fun q => by
                   have hk := kw_13.mp (show kx0 (M 931) s.1 s.2.1 = 13 by omega)
                   omega))
        · skip
          refine e_iconst 56 dX9_spells_55 rfl ?_
          refine e_zret dX9_spells_56 (by decide) ?_
          first
            | (exfalso; omega)
            | (exact h0 (fun q => by
                 have hk := kw_13.mp (show kx0 (M 931) s.1 s.2.1 = 13 by omega)
                 omega))
      · skip
        refine e_iconst 56 dX9_spells_55 rfl ?_
        refine e_zret dX9_spells_56 (by decide) ?_
        first
          | (exfalso; omega)
          | (exact h0 (fun q => by
               have hk := kw_13.mp (show kx0 (M 931) s.1 s.2.1 = 13 by omega)
               omega))
    · skip
      refine e_iconst 25 dX9_spells_24 rfl ?_
      refine e_zret dX9_spells_25 (by decide) ?_
      first
        | (exfalso; omega)
        | (exact h0 (fun q => by
             have hk := kw_13.mp (show kx0 (M 931) s.1 s.2.1 = 13 by omega)
             omega))

theorem c_spells_14 {M Z : jM} {n : Int} {Q : Int → jM → Prop} (hM : CM M n) {s : PS} (hZ : CTk M Z n s) (hI : PI n s) (h1 : s.2.2.1 = 14 → Q 1 Z) (h0 : s.2.2.1 ≠ 14 → Q 0 Z) : jCt yX9_spells cX9_spells 3 (some .boolean) 5 [jR 883, jF 18] Z Q := by
  refine jCt_of mt_yX9_spells (Nat.le_of_ble_eq_true rfl) (fun X => ?_)
  have e3 := hZ.2.2.2.1.1
  have e5 := hZ.2.2.2.1.2.1
  have eT := hZ.2.2.2.1.2.2
  have hi1 := hI.1
  have hi2 := hI.2.1
  have hn0 := hM.1
  have e84 : Z 884 = M 884 := hZ.1 884 (by omega)
  refine e_aload_n (i := 0) 1 dX9_spells_0 rfl rfl rfl ?_
  refine e_geti (j := 4) 4 fl_9_40 dX9_spells_1 at_883 (by decide) rfl rfl (fun r1 => ?_)
  refine e_iconst 5 dX9_spells_4 rfl ?_
  refine e_icmp_ne 8 24 dX9_spells_5 (by omega) (by decide) (by decide) rfl (fun b5 => ?_) (fun b5 => ?_)
  · skip
    refine e_iconst 25 dX9_spells_24 rfl ?_
    refine e_zret dX9_spells_25 (by decide) ?_
    first
      | (exfalso; omega)
      | (exact h0 (fun q => by
           have hk := kw_14.mp (show kx0 (M 931) s.1 s.2.1 = 14 by omega)
           omega))
  · skip
    refine e_aload_n (i := 0) 9 dX9_spells_8 rfl rfl rfl ?_
    refine e_geti (j := 3) 12 fl_9_28 dX9_spells_9 at_883 (by decide) rfl rfl (fun r9 => ?_)
    refine e_aload_n (i := 0) 13 dX9_spells_12 rfl rfl rfl ?_
    refine e_geti (j := 5) 16 fl_9_34 dX9_spells_13 at_883 (by decide) rfl rfl (fun r13 => ?_)
    refine e_isub 17 dX9_spells_16 rfl ?_
    refine e_aloadF_n (i := 1) 18 dX9_spells_17 rfl rfl rfl ?_
    refine e_callF (av := []) 21 (i := 12) (by decide) mt_yJ_len mv_yJ_len wd_559 (by decide) dX9_spells_18 rfl rfl rfl (Nat.le_of_ble_eq_true rfl) (jroom (by decide)) rfl (c_strlen (i := 12) (z := 5) (by decide) (by decide) ?_)
    dsimp only [jpush]
    refine e_icmp_eq 24 26 dX9_spells_21 (by omega) (by decide) (by decide) rfl (fun b21 => ?_) (fun b21 => ?_)
    · skip
      have y0 := hM.2 (s.1) (by omega) (by omega)
      have z0 := w8_c y0.1
      have x0 := y0.2
      have y1 := hM.2 (s.1 + 1) (by omega) (by omega)
      have z1 := w8_c y1.1
      have x1 := y1.2
      have y2 := hM.2 (s.1 + 2) (by omega) (by omega)
      have z2 := w8_c y2.1
      have x2 := y2.2
      have y3 := hM.2 (s.1 + 3) (by omega) (by omega)
      have z3 := w8_c y3.1
      have x3 := y3.2
      have y4 := hM.2 (s.1 + 4) (by omega) (by omega)
      have z4 := w8_c y4.1
      have x4 := y4.2
      refine e_iconst 27 dX9_spells_26 rfl ?_
      refine e_istore_n (i := 2) (lsn := [(2, _), (0, _), (1, _)]) 28 dX9_spells_27 rfl (by decide) rfl rfl ?_
      refine e_iload_n (i := 2) 29 dX9_spells_28 rfl rfl rfl ?_
      refine e_aloadF_n (i := 1) 30 dX9_spells_29 rfl rfl rfl ?_
      refine e_callF (av := []) 33 (i := 12) (by decide) mt_yJ_len mv_yJ_len wd_559 (by decide) dX9_spells_30 rfl rfl rfl (Nat.le_of_ble_eq_true rfl) (jroom (by decide)) rfl (c_strlen (i := 12) (z := 5) (by decide) (by decide) ?_)
      dsimp only [jpush]
      refine e_icmp_ge 36 63 dX9_spells_33 (by decide) (by decide) (by decide) rfl (fun h => absurd h (by decide)) (fun _ => ?_)
      refine e_aload_n (i := 0) 37 dX9_spells_36 rfl rfl rfl ?_
      refine e_getr (j := 0) 40 fl_9_9 dX9_spells_37 at_883 rfl rfl tp_883_0 rfl ?_
      refine e_aload_n (i := 0) 41 dX9_spells_40 rfl rfl rfl ?_
      refine e_geti (j := 5) 44 fl_9_34 dX9_spells_41 at_883 (by decide) rfl rfl (fun r41 => ?_)
      refine e_iload_n (i := 2) 45 dX9_spells_44 rfl rfl rfl ?_
      refine e_iadd 46 dX9_spells_45 rfl ?_
      refine e_bald 47 dX9_spells_46 ar_884 (by omega) (by omega) rfl (fun r46 => ?_)
      simp only [e5, e84, Int.reduceAdd, Int.add_zero] at r46 ⊢
      refine e_aloadF_n (i := 1) 48 dX9_spells_47 rfl rfl rfl ?_
      refine e_iload_n (i := 2) 49 dX9_spells_48 rfl rfl rfl ?_
      refine e_callF (av := [jI _]) 52 (i := 12) (by decide) mt_yJ_charAt mv_yJ_charAt wd_569 (by decide) dX9_spells_49 rfl rfl rfl (Nat.le_of_ble_eq_true rfl) (jroom (by decide)) rfl (c_charAt (i := 12) (k := 0) (z := 99) (by decide) (by decide) (by decide +kernel) ?_)
      dsimp only [jpush]
      refine e_icmp_eq 55 57 dX9_spells_52 (by omega) (by decide) (by decide) rfl (fun b52 => ?_) (fun b52 => ?_)
      · skip
        refine e_iinc (lsn := [(2, _), (0, _), (1, _)]) 60 dX9_spells_57 rfl (by decide) rfl rfl ?_
        refine e_goto 28 dX9_spells_60 (by decide) ?_
        refine e_iload_n (i := 2) 29 dX9_spells_28 rfl rfl rfl ?_
        refine e_aloadF_n (i := 1) 30 dX9_spells_29 rfl rfl rfl ?_
        refine e_callF (av := []) 33 (i := 12) (by decide) mt_yJ_len mv_yJ_len wd_559 (by decide) dX9_spells_30 rfl rfl rfl (Nat.le_of_ble_eq_true rfl) (jroom (by decide)) rfl (c_strlen (i := 12) (z := 5) (by decide) (by decide) ?_)
        dsimp only [jpush]
        refine e_icmp_ge 36 63 dX9_spells_33 (by decide) (by decide) (by decide) rfl (fun h => absurd h (by decide)) (fun _ => ?_)
        refine e_aload_n (i := 0) 37 dX9_spells_36 rfl rfl rfl ?_
        refine e_getr (j := 0) 40 fl_9_9 dX9_spells_37 at_883 rfl rfl tp_883_0 rfl ?_
        refine e_aload_n (i := 0) 41 dX9_spells_40 rfl rfl rfl ?_
        refine e_geti (j := 5) 44 fl_9_34 dX9_spells_41 at_883 (by decide) rfl rfl (fun r41 => ?_)
        refine e_iload_n (i := 2) 45 dX9_spells_44 rfl rfl rfl ?_
        refine e_iadd 46 dX9_spells_45 rfl ?_
        refine e_bald 47 dX9_spells_46 ar_884 (by omega) (by omega) rfl (fun r46 => ?_)
        simp only [e5, e84, Int.reduceAdd, Int.add_zero] at r46 ⊢
        refine e_aloadF_n (i := 1) 48 dX9_spells_47 rfl rfl rfl ?_
        refine e_iload_n (i := 2) 49 dX9_spells_48 rfl rfl rfl ?_
        refine e_callF (av := [jI _]) 52 (i := 12) (by decide) mt_yJ_charAt mv_yJ_charAt wd_569 (by decide) dX9_spells_49 rfl rfl rfl (Nat.le_of_ble_eq_true rfl) (jroom (by decide)) rfl (c_charAt (i := 12) (k := 1) (z := 108) (by decide) (by decide) (by decide +kernel) ?_)
        dsimp only [jpush]
        refine e_icmp_eq 55 57 dX9_spells_52 (by omega) (by decide) (by decide) rfl (fun b52 => ?_) (fun b52 => ?_)
        · skip
          refine e_iinc (lsn := [(2, _), (0, _), (1, _)]) 60 dX9_spells_57 rfl (by decide) rfl rfl ?_
          refine e_goto 28 dX9_spells_60 (by decide) ?_
          refine e_iload_n (i := 2) 29 dX9_spells_28 rfl rfl rfl ?_
          refine e_aloadF_n (i := 1) 30 dX9_spells_29 rfl rfl rfl ?_
          refine e_callF (av := []) 33 (i := 12) (by decide) mt_yJ_len mv_yJ_len wd_559 (by decide) dX9_spells_30 rfl rfl rfl (Nat.le_of_ble_eq_true rfl) (jroom (by decide)) rfl (c_strlen (i := 12) (z := 5) (by decide) (by decide) ?_)
          dsimp only [jpush]
          refine e_icmp_ge 36 63 dX9_spells_33 (by decide) (by decide) (by decide) rfl (fun h => absurd h (by decide)) (fun _ => ?_)
          refine e_aload_n (i := 0) 37 dX9_spells_36 rfl rfl rfl ?_
          refine e_getr (j := 0) 40 fl_9_9 dX9_spells_37 at_883 rfl rfl tp_883_0 rfl ?_
          refine e_aload_n (i := 0) 41 dX9_spells_40 rfl rfl rfl ?_
          refine e_geti (j := 5) 44 fl_9_34 dX9_spells_41 at_883 (by decide) rfl rfl (fun r41 => ?_)
          refine e_iload_n (i := 2) 45 dX9_spells_44 rfl rfl rfl ?_
          refine e_iadd 46 dX9_spells_45 rfl ?_
          refine e_bald 47 dX9_spells_46 ar_884 (by omega) (by omega) rfl (fun r46 => ?_)
          simp only [e5, e84, Int.reduceAdd, Int.add_zero] at r46 ⊢
          refine e_aloadF_n (i := 1) 48 dX9_spells_47 rfl rfl rfl ?_
          refine e_iload_n (i := 2) 49 dX9_spells_48 rfl rfl rfl ?_
          refine e_callF (av := [jI _]) 52 (i := 12) (by decide) mt_yJ_charAt mv_yJ_charAt wd_569 (by decide) dX9_spells_49 rfl rfl rfl (Nat.le_of_ble_eq_true rfl) (jroom (by decide)) rfl (c_charAt (i := 12) (k := 2) (z := 111) (by decide) (by decide) (by decide +kernel) ?_)
          dsimp only [jpush]
          refine e_icmp_eq 55 57 dX9_spells_52 (by omega) (by decide) (by decide) rfl (fun b52 => ?_) (fun b52 => ?_)
          · skip
            refine e_iinc (lsn := [(2, _), (0, _), (1, _)]) 60 dX9_spells_57 rfl (by decide) rfl rfl ?_
            refine e_goto 28 dX9_spells_60 (by decide) ?_
            refine e_iload_n (i := 2) 29 dX9_spells_28 rfl rfl rfl ?_
            refine e_aloadF_n (i := 1) 30 dX9_spells_29 rfl rfl rfl ?_
            refine e_callF (av := []) 33 (i := 12) (by decide) mt_yJ_len mv_yJ_len wd_559 (by decide) dX9_spells_30 rfl rfl rfl (Nat.le_of_ble_eq_true rfl) (jroom (by decide)) rfl (c_strlen (i := 12) (z := 5) (by decide) (by decide) ?_)
            dsimp only [jpush]
            refine e_icmp_ge 36 63 dX9_spells_33 (by decide) (by decide) (by decide) rfl (fun h => absurd h (by decide)) (fun _ => ?_)
            refine e_aload_n (i := 0) 37 dX9_spells_36 rfl rfl rfl ?_
            refine e_getr (j := 0) 40 fl_9_9 dX9_spells_37 at_883 rfl rfl tp_883_0 rfl ?_
            refine e_aload_n (i := 0) 41 dX9_spells_40 rfl rfl rfl ?_
            refine e_geti (j := 5) 44 fl_9_34 dX9_spells_41 at_883 (by decide) rfl rfl (fun r41 => ?_)
            refine e_iload_n (i := 2) 45 dX9_spells_44 rfl rfl rfl ?_
            refine e_iadd 46 dX9_spells_45 rfl ?_
            refine e_bald 47 dX9_spells_46 ar_884 (by omega) (by omega) rfl (fun r46 => ?_)
            simp only [e5, e84, Int.reduceAdd, Int.add_zero] at r46 ⊢
            refine e_aloadF_n (i := 1) 48 dX9_spells_47 rfl rfl rfl ?_
            refine e_iload_n (i := 2) 49 dX9_spells_48 rfl rfl rfl ?_
            refine e_callF (av := [jI _]) 52 (i := 12) (by decide) mt_yJ_charAt mv_yJ_charAt wd_569 (by decide) dX9_spells_49 rfl rfl rfl (Nat.le_of_ble_eq_true rfl) (jroom (by decide)) rfl (c_charAt (i := 12) (k := 3) (z := 116) (by decide) (by decide) (by decide +kernel) ?_)
            dsimp only [jpush]
            refine e_icmp_eq 55 57 dX9_spells_52 (by omega) (by decide) (by decide) rfl (fun b52 => ?_) (fun b52 => ?_)
            · skip
              refine e_iinc (lsn := [(2, _), (0, _), (1, _)]) 60 dX9_spells_57 rfl (by decide) rfl rfl ?_
              refine e_goto 28 dX9_spells_60 (by decide) ?_
              refine e_iload_n (i := 2) 29 dX9_spells_28 rfl rfl rfl ?_
              refine e_aloadF_n (i := 1) 30 dX9_spells_29 rfl rfl rfl ?_
              refine e_callF (av := []) 33 (i := 12) (by decide) mt_yJ_len mv_yJ_len wd_559 (by decide) dX9_spells_30 rfl rfl rfl (Nat.le_of_ble_eq_true rfl) (jroom (by decide)) rfl (c_strlen (i := 12) (z := 5) (by decide) (by decide) ?_)
              dsimp only [jpush]
              refine e_icmp_ge 36 63 dX9_spells_33 (by decide) (by decide) (by decide) rfl (fun h => absurd h (by decide)) (fun _ => ?_)
              refine e_aload_n (i := 0) 37 dX9_spells_36 rfl rfl rfl ?_
              refine e_getr (j := 0) 40 fl_9_9 dX9_spells_37 at_883 rfl rfl tp_883_0 rfl ?_
              refine e_aload_n (i := 0) 41 dX9_spells_40 rfl rfl rfl ?_
              refine e_geti (j := 5) 44 fl_9_34 dX9_spells_41 at_883 (by decide) rfl rfl (fun r41 => ?_)
              refine e_iload_n (i := 2) 45 dX9_spells_44 rfl rfl rfl ?_
              refine e_iadd 46 dX9_spells_45 rfl ?_
              refine e_bald 47 dX9_spells_46 ar_884 (by omega) (by omega) rfl (fun r46 => ?_)
              simp only [e5, e84, Int.reduceAdd, Int.add_zero] at r46 ⊢
              refine e_aloadF_n (i := 1) 48 dX9_spells_47 rfl rfl rfl ?_
              refine e_iload_n (i := 2) 49 dX9_spells_48 rfl rfl rfl ?_
              refine e_callF (av := [jI _]) 52 (i := 12) (by decide) mt_yJ_charAt mv_yJ_charAt wd_569 (by decide) dX9_spells_49 rfl rfl rfl (Nat.le_of_ble_eq_true rfl) (jroom (by decide)) rfl (c_charAt (i := 12) (k := 4) (z := 104) (by decide) (by decide) (by decide +kernel) ?_)
              dsimp only [jpush]
              refine e_icmp_eq 55 57 dX9_spells_52 (by omega) (by decide) (by decide) rfl (fun b52 => ?_) (fun b52 => ?_)
              · skip
                refine e_iinc (lsn := [(2, _), (0, _), (1, _)]) 60 dX9_spells_57 rfl (by decide) rfl rfl ?_
                refine e_goto 28 dX9_spells_60 (by decide) ?_
                refine e_iload_n (i := 2) 29 dX9_spells_28 rfl rfl rfl ?_
                refine e_aloadF_n (i := 1) 30 dX9_spells_29 rfl rfl rfl ?_
                refine e_callF (av := []) 33 (i := 12) (by decide) mt_yJ_len mv_yJ_len wd_559 (by decide) dX9_spells_30 rfl rfl rfl (Nat.le_of_ble_eq_true rfl) (jroom (by decide)) rfl (c_strlen (i := 12) (z := 5) (by decide) (by decide) ?_)
                dsimp only [jpush]
                refine e_icmp_ge 36 63 dX9_spells_33 (by decide) (by decide) (by decide) rfl (fun _ => ?_) (fun h => absurd h (by decide))
                refine e_iconst 64 dX9_spells_63 rfl ?_
                refine e_zret dX9_spells_64 (by decide) ?_
                first
                  | (exfalso; omega)
                  | (exact h1 (by
                       have hk := kw_14.mpr (show isW14 (M 931) s.1 s.2.1 by omega)
                       omega))
              · skip
                refine e_iconst 56 dX9_spells_55 rfl ?_
                refine e_zret dX9_spells_56 (by decide) ?_
                first
                  | (exfalso; omega)
                  | (exact h0 (fun q => by
                       have hk := kw_14.mp (show kx0 (M 931) s.1 s.2.1 = 14 by omega)
                       omega))
            · skip
              refine e_iconst 56 dX9_spells_55 rfl ?_
              refine e_zret dX9_spells_56 (by decide) ?_
              first
                | (exfalso; omega)
                | (exact h0 (fun q => by
                     have hk := kw_14.mp (show kx0 (M 931) s.1 s.2.1 = 14 by omega)
                     omega))
          · skip
            refine e_iconst 56 dX9_spells_55 rfl ?_
            refine e_zret dX9_spells_56 (by decide) ?_
            first
              | (exfalso; omega)
              | (exact h0 (fun q => by
                   have hk := kw_14.mp (show kx0 (M 931) s.1 s.2.1 = 14 by omega)
                   omega))
        · skip
          refine e_iconst 56 dX9_spells_55 rfl ?_
          refine e_zret dX9_spells_56 (by decide) ?_
          first
            | (exfalso; omega)
            | (exact h0 (fun q => by
                 have hk := kw_14.mp (show kx0 (M 931) s.1 s.2.1 = 14 by omega)
                 omega))
      · skip
        refine e_iconst 56 dX9_spells_55 rfl ?_
        refine e_zret dX9_spells_56 (by decide) ?_
        first
          | (exfalso; omega)
          | (exact h0 (fun q => by
               have hk := kw_14.mp (show kx0 (M 931) s.1 s.2.1 = 14 by omega)
               omega))
    · skip
      refine e_iconst 25 dX9_spells_24 rfl ?_
      refine e_zret dX9_spells_25 (by decide) ?_
      first
        | (exfalso; omega)
        | (exact h0 (fun q => by
             have hk := kw_14.mp (show kx0 (M 931) s.1 s.2.1 = 14 by omega)
             omega))

theorem c_spells_15 {M Z : jM} {n : Int} {Q : Int → jM → Prop} (hM : CM M n) {s : PS} (hZ : CTk M Z n s) (hI : PI n s) (h1 : s.2.2.1 = 15 → Q 1 Z) (h0 : s.2.2.1 ≠ 15 → Q 0 Z) : jCt yX9_spells cX9_spells 3 (some .boolean) 5 [jR 883, jF 19] Z Q := by
  refine jCt_of mt_yX9_spells (Nat.le_of_ble_eq_true rfl) (fun X => ?_)
  have e3 := hZ.2.2.2.1.1
  have e5 := hZ.2.2.2.1.2.1
  have eT := hZ.2.2.2.1.2.2
  have hi1 := hI.1
  have hi2 := hI.2.1
  have hn0 := hM.1
  have e84 : Z 884 = M 884 := hZ.1 884 (by omega)
  refine e_aload_n (i := 0) 1 dX9_spells_0 rfl rfl rfl ?_
  refine e_geti (j := 4) 4 fl_9_40 dX9_spells_1 at_883 (by decide) rfl rfl (fun r1 => ?_)
  refine e_iconst 5 dX9_spells_4 rfl ?_
  refine e_icmp_ne 8 24 dX9_spells_5 (by omega) (by decide) (by decide) rfl (fun b5 => ?_) (fun b5 => ?_)
  · skip
    refine e_iconst 25 dX9_spells_24 rfl ?_
    refine e_zret dX9_spells_25 (by decide) ?_
    first
      | (exfalso; omega)
      | (exact h0 (fun q => by
           have hk := kw_15.mp (show kx0 (M 931) s.1 s.2.1 = 15 by omega)
           omega))
  · skip
    refine e_aload_n (i := 0) 9 dX9_spells_8 rfl rfl rfl ?_
    refine e_geti (j := 3) 12 fl_9_28 dX9_spells_9 at_883 (by decide) rfl rfl (fun r9 => ?_)
    refine e_aload_n (i := 0) 13 dX9_spells_12 rfl rfl rfl ?_
    refine e_geti (j := 5) 16 fl_9_34 dX9_spells_13 at_883 (by decide) rfl rfl (fun r13 => ?_)
    refine e_isub 17 dX9_spells_16 rfl ?_
    refine e_aloadF_n (i := 1) 18 dX9_spells_17 rfl rfl rfl ?_
    refine e_callF (av := []) 21 (i := 13) (by decide) mt_yJ_len mv_yJ_len wd_559 (by decide) dX9_spells_18 rfl rfl rfl (Nat.le_of_ble_eq_true rfl) (jroom (by decide)) rfl (c_strlen (i := 13) (z := 4) (by decide) (by decide) ?_)
    dsimp only [jpush]
    refine e_icmp_eq 24 26 dX9_spells_21 (by omega) (by decide) (by decide) rfl (fun b21 => ?_) (fun b21 => ?_)
    · skip
      have y0 := hM.2 (s.1) (by omega) (by omega)
      have z0 := w8_c y0.1
      have x0 := y0.2
      have y1 := hM.2 (s.1 + 1) (by omega) (by omega)
      have z1 := w8_c y1.1
      have x1 := y1.2
      have y2 := hM.2 (s.1 + 2) (by omega) (by omega)
      have z2 := w8_c y2.1
      have x2 := y2.2
      have y3 := hM.2 (s.1 + 3) (by omega) (by omega)
      have z3 := w8_c y3.1
      have x3 := y3.2
      refine e_iconst 27 dX9_spells_26 rfl ?_
      refine e_istore_n (i := 2) (lsn := [(2, _), (0, _), (1, _)]) 28 dX9_spells_27 rfl (by decide) rfl rfl ?_
      refine e_iload_n (i := 2) 29 dX9_spells_28 rfl rfl rfl ?_
      refine e_aloadF_n (i := 1) 30 dX9_spells_29 rfl rfl rfl ?_
      refine e_callF (av := []) 33 (i := 13) (by decide) mt_yJ_len mv_yJ_len wd_559 (by decide) dX9_spells_30 rfl rfl rfl (Nat.le_of_ble_eq_true rfl) (jroom (by decide)) rfl (c_strlen (i := 13) (z := 4) (by decide) (by decide) ?_)
      dsimp only [jpush]
      refine e_icmp_ge 36 63 dX9_spells_33 (by decide) (by decide) (by decide) rfl (fun h => absurd h (by decide)) (fun _ => ?_)
      refine e_aload_n (i := 0) 37 dX9_spells_36 rfl rfl rfl ?_
      refine e_getr (j := 0) 40 fl_9_9 dX9_spells_37 at_883 rfl rfl tp_883_0 rfl ?_
      refine e_aload_n (i := 0) 41 dX9_spells_40 rfl rfl rfl ?_
      refine e_geti (j := 5) 44 fl_9_34 dX9_spells_41 at_883 (by decide) rfl rfl (fun r41 => ?_)
      refine e_iload_n (i := 2) 45 dX9_spells_44 rfl rfl rfl ?_
      refine e_iadd 46 dX9_spells_45 rfl ?_
      refine e_bald 47 dX9_spells_46 ar_884 (by omega) (by omega) rfl (fun r46 => ?_)
      simp only [e5, e84, Int.reduceAdd, Int.add_zero] at r46 ⊢
      refine e_aloadF_n (i := 1) 48 dX9_spells_47 rfl rfl rfl ?_
      refine e_iload_n (i := 2) 49 dX9_spells_48 rfl rfl rfl ?_
      refine e_callF (av := [jI _]) 52 (i := 13) (by decide) mt_yJ_charAt mv_yJ_charAt wd_569 (by decide) dX9_spells_49 rfl rfl rfl (Nat.le_of_ble_eq_true rfl) (jroom (by decide)) rfl (c_charAt (i := 13) (k := 0) (z := 107) (by decide) (by decide) (by decide +kernel) ?_)
      dsimp only [jpush]
      refine e_icmp_eq 55 57 dX9_spells_52 (by omega) (by decide) (by decide) rfl (fun b52 => ?_) (fun b52 => ?_)
      · skip
        refine e_iinc (lsn := [(2, _), (0, _), (1, _)]) 60 dX9_spells_57 rfl (by decide) rfl rfl ?_
        refine e_goto 28 dX9_spells_60 (by decide) ?_
        refine e_iload_n (i := 2) 29 dX9_spells_28 rfl rfl rfl ?_
        refine e_aloadF_n (i := 1) 30 dX9_spells_29 rfl rfl rfl ?_
        refine e_callF (av := []) 33 (i := 13) (by decide) mt_yJ_len mv_yJ_len wd_559 (by decide) dX9_spells_30 rfl rfl rfl (Nat.le_of_ble_eq_true rfl) (jroom (by decide)) rfl (c_strlen (i := 13) (z := 4) (by decide) (by decide) ?_)
        dsimp only [jpush]
        refine e_icmp_ge 36 63 dX9_spells_33 (by decide) (by decide) (by decide) rfl (fun h => absurd h (by decide)) (fun _ => ?_)
        refine e_aload_n (i := 0) 37 dX9_spells_36 rfl rfl rfl ?_
        refine e_getr (j := 0) 40 fl_9_9 dX9_spells_37 at_883 rfl rfl tp_883_0 rfl ?_
        refine e_aload_n (i := 0) 41 dX9_spells_40 rfl rfl rfl ?_
        refine e_geti (j := 5) 44 fl_9_34 dX9_spells_41 at_883 (by decide) rfl rfl (fun r41 => ?_)
        refine e_iload_n (i := 2) 45 dX9_spells_44 rfl rfl rfl ?_
        refine e_iadd 46 dX9_spells_45 rfl ?_
        refine e_bald 47 dX9_spells_46 ar_884 (by omega) (by omega) rfl (fun r46 => ?_)
        simp only [e5, e84, Int.reduceAdd, Int.add_zero] at r46 ⊢
        refine e_aloadF_n (i := 1) 48 dX9_spells_47 rfl rfl rfl ?_
        refine e_iload_n (i := 2) 49 dX9_spells_48 rfl rfl rfl ?_
        refine e_callF (av := [jI _]) 52 (i := 13) (by decide) mt_yJ_charAt mv_yJ_charAt wd_569 (by decide) dX9_spells_49 rfl rfl rfl (Nat.le_of_ble_eq_true rfl) (jroom (by decide)) rfl (c_charAt (i := 13) (k := 1) (z := 105) (by decide) (by decide) (by decide +kernel) ?_)
        dsimp only [jpush]
        refine e_icmp_eq 55 57 dX9_spells_52 (by omega) (by decide) (by decide) rfl (fun b52 => ?_) (fun b52 => ?_)
        · skip
          refine e_iinc (lsn := [(2, _), (0, _), (1, _)]) 60 dX9_spells_57 rfl (by decide) rfl rfl ?_
          refine e_goto 28 dX9_spells_60 (by decide) ?_
          refine e_iload_n (i := 2) 29 dX9_spells_28 rfl rfl rfl ?_
          refine e_aloadF_n (i := 1) 30 dX9_spells_29 rfl rfl rfl ?_
          refine e_callF (av := []) 33 (i := 13) (by decide) mt_yJ_len mv_yJ_len wd_559 (by decide) dX9_spells_30 rfl rfl rfl (Nat.le_of_ble_eq_true rfl) (jroom (by decide)) rfl (c_strlen (i := 13) (z := 4) (by decide) (by decide) ?_)
          dsimp only [jpush]
          refine e_icmp_ge 36 63 dX9_spells_33 (by decide) (by decide) (by decide) rfl (fun h => absurd h (by decide)) (fun _ => ?_)
          refine e_aload_n (i := 0) 37 dX9_spells_36 rfl rfl rfl ?_
          refine e_getr (j := 0) 40 fl_9_9 dX9_spells_37 at_883 rfl rfl tp_883_0 rfl ?_
          refine e_aload_n (i := 0) 41 dX9_spells_40 rfl rfl rfl ?_
          refine e_geti (j := 5) 44 fl_9_34 dX9_spells_41 at_883 (by decide) rfl rfl (fun r41 => ?_)
          refine e_iload_n (i := 2) 45 dX9_spells_44 rfl rfl rfl ?_
          refine e_iadd 46 dX9_spells_45 rfl ?_
          refine e_bald 47 dX9_spells_46 ar_884 (by omega) (by omega) rfl (fun r46 => ?_)
          simp only [e5, e84, Int.reduceAdd, Int.add_zero] at r46 ⊢
          refine e_aloadF_n (i := 1) 48 dX9_spells_47 rfl rfl rfl ?_
          refine e_iload_n (i := 2) 49 dX9_spells_48 rfl rfl rfl ?_
          refine e_callF (av := [jI _]) 52 (i := 13) (by decide) mt_yJ_charAt mv_yJ_charAt wd_569 (by decide) dX9_spells_49 rfl rfl rfl (Nat.le_of_ble_eq_true rfl) (jroom (by decide)) rfl (c_charAt (i := 13) (k := 2) (z := 110) (by decide) (by decide) (by decide +kernel) ?_)
          dsimp only [jpush]
          refine e_icmp_eq 55 57 dX9_spells_52 (by omega) (by decide) (by decide) rfl (fun b52 => ?_) (fun b52 => ?_)
          · skip
            refine e_iinc (lsn := [(2, _), (0, _), (1, _)]) 60 dX9_spells_57 rfl (by decide) rfl rfl ?_
            refine e_goto 28 dX9_spells_60 (by decide) ?_
            refine e_iload_n (i := 2) 29 dX9_spells_28 rfl rfl rfl ?_
            refine e_aloadF_n (i := 1) 30 dX9_spells_29 rfl rfl rfl ?_
            refine e_callF (av := []) 33 (i := 13) (by decide) mt_yJ_len mv_yJ_len wd_559 (by decide) dX9_spells_30 rfl rfl rfl (Nat.le_of_ble_eq_true rfl) (jroom (by decide)) rfl (c_strlen (i := 13) (z := 4) (by decide) (by decide) ?_)
            dsimp only [jpush]
            refine e_icmp_ge 36 63 dX9_spells_33 (by decide) (by decide) (by decide) rfl (fun h => absurd h (by decide)) (fun _ => ?_)
            refine e_aload_n (i := 0) 37 dX9_spells_36 rfl rfl rfl ?_
            refine e_getr (j := 0) 40 fl_9_9 dX9_spells_37 at_883 rfl rfl tp_883_0 rfl ?_
            refine e_aload_n (i := 0) 41 dX9_spells_40 rfl rfl rfl ?_
            refine e_geti (j := 5) 44 fl_9_34 dX9_spells_41 at_883 (by decide) rfl rfl (fun r41 => ?_)
            refine e_iload_n (i := 2) 45 dX9_spells_44 rfl rfl rfl ?_
            refine e_iadd 46 dX9_spells_45 rfl ?_
            refine e_bald 47 dX9_spells_46 ar_884 (by omega) (by omega) rfl (fun r46 => ?_)
            simp only [e5, e84, Int.reduceAdd, Int.add_zero] at r46 ⊢
            refine e_aloadF_n (i := 1) 48 dX9_spells_47 rfl rfl rfl ?_
            refine e_iload_n (i := 2) 49 dX9_spells_48 rfl rfl rfl ?_
            refine e_callF (av := [jI _]) 52 (i := 13) (by decide) mt_yJ_charAt mv_yJ_charAt wd_569 (by decide) dX9_spells_49 rfl rfl rfl (Nat.le_of_ble_eq_true rfl) (jroom (by decide)) rfl (c_charAt (i := 13) (k := 3) (z := 100) (by decide) (by decide) (by decide +kernel) ?_)
            dsimp only [jpush]
            refine e_icmp_eq 55 57 dX9_spells_52 (by omega) (by decide) (by decide) rfl (fun b52 => ?_) (fun b52 => ?_)
            · skip
              refine e_iinc (lsn := [(2, _), (0, _), (1, _)]) 60 dX9_spells_57 rfl (by decide) rfl rfl ?_
              refine e_goto 28 dX9_spells_60 (by decide) ?_
              refine e_iload_n (i := 2) 29 dX9_spells_28 rfl rfl rfl ?_
              refine e_aloadF_n (i := 1) 30 dX9_spells_29 rfl rfl rfl ?_
              refine e_callF (av := []) 33 (i := 13) (by decide) mt_yJ_len mv_yJ_len wd_559 (by decide) dX9_spells_30 rfl rfl rfl (Nat.le_of_ble_eq_true rfl) (jroom (by decide)) rfl (c_strlen (i := 13) (z := 4) (by decide) (by decide) ?_)
              dsimp only [jpush]
              refine e_icmp_ge 36 63 dX9_spells_33 (by decide) (by decide) (by decide) rfl (fun _ => ?_) (fun h => absurd h (by decide))
              refine e_iconst 64 dX9_spells_63 rfl ?_
              refine e_zret dX9_spells_64 (by decide) ?_
              first
                | (exfalso; omega)
                | (exact h1 (by
                     have hk := kw_15.mpr (show isW15 (M 931) s.1 s.2.1 by omega)
                     omega))
            · skip
              refine e_iconst 56 dX9_spells_55 rfl ?_
              refine e_zret dX9_spells_56 (by decide) ?_
              first
                | (exfalso; omega)
                | (exact h0 (fun q => by
                     have hk := kw_15.mp (show kx0 (M 931) s.1 s.2.1 = 15 by omega)
                     omega))
          · skip
            refine e_iconst 56 dX9_spells_55 rfl ?_
            refine e_zret dX9_spells_56 (by decide) ?_
            first
              | (exfalso; omega)
              | (exact h0 (fun q => by
                   have hk := kw_15.mp (show kx0 (M 931) s.1 s.2.1 = 15 by omega)
                   omega))
        · skip
          refine e_iconst 56 dX9_spells_55 rfl ?_
          refine e_zret dX9_spells_56 (by decide) ?_
          first
            | (exfalso; omega)
            | (exact h0 (fun q => by
                 have hk := kw_15.mp (show kx0 (M 931) s.1 s.2.1 = 15 by omega)
                 omega))
      · skip
        refine e_iconst 56 dX9_spells_55 rfl ?_
        refine e_zret dX9_spells_56 (by decide) ?_
        first
          | (exfalso; omega)
          | (exact h0 (fun q => by
               have hk := kw_15.mp (show kx0 (M 931) s.1 s.2.1 = 15 by omega)
               omega))
    · skip
      refine e_iconst 25 dX9_spells_24 rfl ?_
      refine e_zret dX9_spells_25 (by decide) ?_
      first
        | (exfalso; omega)
        | (exact h0 (fun q => by
             have hk := kw_15.mp (show kx0 (M 931) s.1 s.2.1 = 15 by omega)
             omega))

theorem c_spells_16 {M Z : jM} {n : Int} {Q : Int → jM → Prop} (hM : CM M n) {s : PS} (hZ : CTk M Z n s) (hI : PI n s) (h1 : s.2.2.1 = 16 → Q 1 Z) (h0 : s.2.2.1 ≠ 16 → Q 0 Z) : jCt yX9_spells cX9_spells 3 (some .boolean) 5 [jR 883, jF 20] Z Q := by
  refine jCt_of mt_yX9_spells (Nat.le_of_ble_eq_true rfl) (fun X => ?_)
  have e3 := hZ.2.2.2.1.1
  have e5 := hZ.2.2.2.1.2.1
  have eT := hZ.2.2.2.1.2.2
  have hi1 := hI.1
  have hi2 := hI.2.1
  have hn0 := hM.1
  have e84 : Z 884 = M 884 := hZ.1 884 (by omega)
  refine e_aload_n (i := 0) 1 dX9_spells_0 rfl rfl rfl ?_
  refine e_geti (j := 4) 4 fl_9_40 dX9_spells_1 at_883 (by decide) rfl rfl (fun r1 => ?_)
  refine e_iconst 5 dX9_spells_4 rfl ?_
  refine e_icmp_ne 8 24 dX9_spells_5 (by omega) (by decide) (by decide) rfl (fun b5 => ?_) (fun b5 => ?_)
  · skip
    refine e_iconst 25 dX9_spells_24 rfl ?_
    refine e_zret dX9_spells_25 (by decide) ?_
    first
      | (exfalso; omega)
      | (exact h0 (fun q => by
           have hk := kw_16.mp (show kx0 (M 931) s.1 s.2.1 = 16 by omega)
           omega))
  · skip
    refine e_aload_n (i := 0) 9 dX9_spells_8 rfl rfl rfl ?_
    refine e_geti (j := 3) 12 fl_9_28 dX9_spells_9 at_883 (by decide) rfl rfl (fun r9 => ?_)
    refine e_aload_n (i := 0) 13 dX9_spells_12 rfl rfl rfl ?_
    refine e_geti (j := 5) 16 fl_9_34 dX9_spells_13 at_883 (by decide) rfl rfl (fun r13 => ?_)
    refine e_isub 17 dX9_spells_16 rfl ?_
    refine e_aloadF_n (i := 1) 18 dX9_spells_17 rfl rfl rfl ?_
    refine e_callF (av := []) 21 (i := 14) (by decide) mt_yJ_len mv_yJ_len wd_559 (by decide) dX9_spells_18 rfl rfl rfl (Nat.le_of_ble_eq_true rfl) (jroom (by decide)) rfl (c_strlen (i := 14) (z := 4) (by decide) (by decide) ?_)
    dsimp only [jpush]
    refine e_icmp_eq 24 26 dX9_spells_21 (by omega) (by decide) (by decide) rfl (fun b21 => ?_) (fun b21 => ?_)
    · skip
      have y0 := hM.2 (s.1) (by omega) (by omega)
      have z0 := w8_c y0.1
      have x0 := y0.2
      have y1 := hM.2 (s.1 + 1) (by omega) (by omega)
      have z1 := w8_c y1.1
      have x1 := y1.2
      have y2 := hM.2 (s.1 + 2) (by omega) (by omega)
      have z2 := w8_c y2.1
      have x2 := y2.2
      have y3 := hM.2 (s.1 + 3) (by omega) (by omega)
      have z3 := w8_c y3.1
      have x3 := y3.2
      refine e_iconst 27 dX9_spells_26 rfl ?_
      refine e_istore_n (i := 2) (lsn := [(2, _), (0, _), (1, _)]) 28 dX9_spells_27 rfl (by decide) rfl rfl ?_
      refine e_iload_n (i := 2) 29 dX9_spells_28 rfl rfl rfl ?_
      refine e_aloadF_n (i := 1) 30 dX9_spells_29 rfl rfl rfl ?_
      refine e_callF (av := []) 33 (i := 14) (by decide) mt_yJ_len mv_yJ_len wd_559 (by decide) dX9_spells_30 rfl rfl rfl (Nat.le_of_ble_eq_true rfl) (jroom (by decide)) rfl (c_strlen (i := 14) (z := 4) (by decide) (by decide) ?_)
      dsimp only [jpush]
      refine e_icmp_ge 36 63 dX9_spells_33 (by decide) (by decide) (by decide) rfl (fun h => absurd h (by decide)) (fun _ => ?_)
      refine e_aload_n (i := 0) 37 dX9_spells_36 rfl rfl rfl ?_
      refine e_getr (j := 0) 40 fl_9_9 dX9_spells_37 at_883 rfl rfl tp_883_0 rfl ?_
      refine e_aload_n (i := 0) 41 dX9_spells_40 rfl rfl rfl ?_
      refine e_geti (j := 5) 44 fl_9_34 dX9_spells_41 at_883 (by decide) rfl rfl (fun r41 => ?_)
      refine e_iload_n (i := 2) 45 dX9_spells_44 rfl rfl rfl ?_
      refine e_iadd 46 dX9_spells_45 rfl ?_
      refine e_bald 47 dX9_spells_46 ar_884 (by omega) (by omega) rfl (fun r46 => ?_)
      simp only [e5, e84, Int.reduceAdd, Int.add_zero] at r46 ⊢
      refine e_aloadF_n (i := 1) 48 dX9_spells_47 rfl rfl rfl ?_
      refine e_iload_n (i := 2) 49 dX9_spells_48 rfl rfl rfl ?_
      refine e_callF (av := [jI _]) 52 (i := 14) (by decide) mt_yJ_charAt mv_yJ_charAt wd_569 (by decide) dX9_spells_49 rfl rfl rfl (Nat.le_of_ble_eq_true rfl) (jroom (by decide)) rfl (c_charAt (i := 14) (k := 0) (z := 115) (by decide) (by decide) (by decide +kernel) ?_)
      dsimp only [jpush]
      refine e_icmp_eq 55 57 dX9_spells_52 (by omega) (by decide) (by decide) rfl (fun b52 => ?_) (fun b52 => ?_)
      · skip
        refine e_iinc (lsn := [(2, _), (0, _), (1, _)]) 60 dX9_spells_57 rfl (by decide) rfl rfl ?_
        refine e_goto 28 dX9_spells_60 (by decide) ?_
        refine e_iload_n (i := 2) 29 dX9_spells_28 rfl rfl rfl ?_
        refine e_aloadF_n (i := 1) 30 dX9_spells_29 rfl rfl rfl ?_
        refine e_callF (av := []) 33 (i := 14) (by decide) mt_yJ_len mv_yJ_len wd_559 (by decide) dX9_spells_30 rfl rfl rfl (Nat.le_of_ble_eq_true rfl) (jroom (by decide)) rfl (c_strlen (i := 14) (z := 4) (by decide) (by decide) ?_)
        dsimp only [jpush]
        refine e_icmp_ge 36 63 dX9_spells_33 (by decide) (by decide) (by decide) rfl (fun h => absurd h (by decide)) (fun _ => ?_)
        refine e_aload_n (i := 0) 37 dX9_spells_36 rfl rfl rfl ?_
        refine e_getr (j := 0) 40 fl_9_9 dX9_spells_37 at_883 rfl rfl tp_883_0 rfl ?_
        refine e_aload_n (i := 0) 41 dX9_spells_40 rfl rfl rfl ?_
        refine e_geti (j := 5) 44 fl_9_34 dX9_spells_41 at_883 (by decide) rfl rfl (fun r41 => ?_)
        refine e_iload_n (i := 2) 45 dX9_spells_44 rfl rfl rfl ?_
        refine e_iadd 46 dX9_spells_45 rfl ?_
        refine e_bald 47 dX9_spells_46 ar_884 (by omega) (by omega) rfl (fun r46 => ?_)
        simp only [e5, e84, Int.reduceAdd, Int.add_zero] at r46 ⊢
        refine e_aloadF_n (i := 1) 48 dX9_spells_47 rfl rfl rfl ?_
        refine e_iload_n (i := 2) 49 dX9_spells_48 rfl rfl rfl ?_
        refine e_callF (av := [jI _]) 52 (i := 14) (by decide) mt_yJ_charAt mv_yJ_charAt wd_569 (by decide) dX9_spells_49 rfl rfl rfl (Nat.le_of_ble_eq_true rfl) (jroom (by decide)) rfl (c_charAt (i := 14) (k := 1) (z := 105) (by decide) (by decide) (by decide +kernel) ?_)
        dsimp only [jpush]
        refine e_icmp_eq 55 57 dX9_spells_52 (by omega) (by decide) (by decide) rfl (fun b52 => ?_) (fun b52 => ?_)
        · skip
          refine e_iinc (lsn := [(2, _), (0, _), (1, _)]) 60 dX9_spells_57 rfl (by decide) rfl rfl ?_
          refine e_goto 28 dX9_spells_60 (by decide) ?_
          refine e_iload_n (i := 2) 29 dX9_spells_28 rfl rfl rfl ?_
          refine e_aloadF_n (i := 1) 30 dX9_spells_29 rfl rfl rfl ?_
          refine e_callF (av := []) 33 (i := 14) (by decide) mt_yJ_len mv_yJ_len wd_559 (by decide) dX9_spells_30 rfl rfl rfl (Nat.le_of_ble_eq_true rfl) (jroom (by decide)) rfl (c_strlen (i := 14) (z := 4) (by decide) (by decide) ?_)
          dsimp only [jpush]
          refine e_icmp_ge 36 63 dX9_spells_33 (by decide) (by decide) (by decide) rfl (fun h => absurd h (by decide)) (fun _ => ?_)
          refine e_aload_n (i := 0) 37 dX9_spells_36 rfl rfl rfl ?_
          refine e_getr (j := 0) 40 fl_9_9 dX9_spells_37 at_883 rfl rfl tp_883_0 rfl ?_
          refine e_aload_n (i := 0) 41 dX9_spells_40 rfl rfl rfl ?_
          refine e_geti (j := 5) 44 fl_9_34 dX9_spells_41 at_883 (by decide) rfl rfl (fun r41 => ?_)
          refine e_iload_n (i := 2) 45 dX9_spells_44 rfl rfl rfl ?_
          refine e_iadd 46 dX9_spells_45 rfl ?_
          refine e_bald 47 dX9_spells_46 ar_884 (by omega) (by omega) rfl (fun r46 => ?_)
          simp only [e5, e84, Int.reduceAdd, Int.add_zero] at r46 ⊢
          refine e_aloadF_n (i := 1) 48 dX9_spells_47 rfl rfl rfl ?_
          refine e_iload_n (i := 2) 49 dX9_spells_48 rfl rfl rfl ?_
          refine e_callF (av := [jI _]) 52 (i := 14) (by decide) mt_yJ_charAt mv_yJ_charAt wd_569 (by decide) dX9_spells_49 rfl rfl rfl (Nat.le_of_ble_eq_true rfl) (jroom (by decide)) rfl (c_charAt (i := 14) (k := 2) (z := 122) (by decide) (by decide) (by decide +kernel) ?_)
          dsimp only [jpush]
          refine e_icmp_eq 55 57 dX9_spells_52 (by omega) (by decide) (by decide) rfl (fun b52 => ?_) (fun b52 => ?_)
          · skip
            refine e_iinc (lsn := [(2, _), (0, _), (1, _)]) 60 dX9_spells_57 rfl (by decide) rfl rfl ?_
            refine e_goto 28 dX9_spells_60 (by decide) ?_
            refine e_iload_n (i := 2) 29 dX9_spells_28 rfl rfl rfl ?_
            refine e_aloadF_n (i := 1) 30 dX9_spells_29 rfl rfl rfl ?_
            refine e_callF (av := []) 33 (i := 14) (by decide) mt_yJ_len mv_yJ_len wd_559 (by decide) dX9_spells_30 rfl rfl rfl (Nat.le_of_ble_eq_true rfl) (jroom (by decide)) rfl (c_strlen (i := 14) (z := 4) (by decide) (by decide) ?_)
            dsimp only [jpush]
            refine e_icmp_ge 36 63 dX9_spells_33 (by decide) (by decide) (by decide) rfl (fun h => absurd h (by decide)) (fun _ => ?_)
            refine e_aload_n (i := 0) 37 dX9_spells_36 rfl rfl rfl ?_
            refine e_getr (j := 0) 40 fl_9_9 dX9_spells_37 at_883 rfl rfl tp_883_0 rfl ?_
            refine e_aload_n (i := 0) 41 dX9_spells_40 rfl rfl rfl ?_
            refine e_geti (j := 5) 44 fl_9_34 dX9_spells_41 at_883 (by decide) rfl rfl (fun r41 => ?_)
            refine e_iload_n (i := 2) 45 dX9_spells_44 rfl rfl rfl ?_
            refine e_iadd 46 dX9_spells_45 rfl ?_
            refine e_bald 47 dX9_spells_46 ar_884 (by omega) (by omega) rfl (fun r46 => ?_)
            simp only [e5, e84, Int.reduceAdd, Int.add_zero] at r46 ⊢
            refine e_aloadF_n (i := 1) 48 dX9_spells_47 rfl rfl rfl ?_
            refine e_iload_n (i := 2) 49 dX9_spells_48 rfl rfl rfl ?_
            refine e_callF (av := [jI _]) 52 (i := 14) (by decide) mt_yJ_charAt mv_yJ_charAt wd_569 (by decide) dX9_spells_49 rfl rfl rfl (Nat.le_of_ble_eq_true rfl) (jroom (by decide)) rfl (c_charAt (i := 14) (k := 3) (z := 101) (by decide) (by decide) (by decide +kernel) ?_)
            dsimp only [jpush]
            refine e_icmp_eq 55 57 dX9_spells_52 (by omega) (by decide) (by decide) rfl (fun b52 => ?_) (fun b52 => ?_)
            · skip
              refine e_iinc (lsn := [(2, _), (0, _), (1, _)]) 60 dX9_spells_57 rfl (by decide) rfl rfl ?_
              refine e_goto 28 dX9_spells_60 (by decide) ?_
              refine e_iload_n (i := 2) 29 dX9_spells_28 rfl rfl rfl ?_
              refine e_aloadF_n (i := 1) 30 dX9_spells_29 rfl rfl rfl ?_
              refine e_callF (av := []) 33 (i := 14) (by decide) mt_yJ_len mv_yJ_len wd_559 (by decide) dX9_spells_30 rfl rfl rfl (Nat.le_of_ble_eq_true rfl) (jroom (by decide)) rfl (c_strlen (i := 14) (z := 4) (by decide) (by decide) ?_)
              dsimp only [jpush]
              refine e_icmp_ge 36 63 dX9_spells_33 (by decide) (by decide) (by decide) rfl (fun _ => ?_) (fun h => absurd h (by decide))
              refine e_iconst 64 dX9_spells_63 rfl ?_
              refine e_zret dX9_spells_64 (by decide) ?_
              first
                | (exfalso; omega)
                | (exact h1 (by
                     have hk := kw_16.mpr (show isW16 (M 931) s.1 s.2.1 by omega)
                     omega))
            · skip
              refine e_iconst 56 dX9_spells_55 rfl ?_
              refine e_zret dX9_spells_56 (by decide) ?_
              first
                | (exfalso; omega)
                | (exact h0 (fun q => by
                     have hk := kw_16.mp (show kx0 (M 931) s.1 s.2.1 = 16 by omega)
                     omega))
          · skip
            refine e_iconst 56 dX9_spells_55 rfl ?_
            refine e_zret dX9_spells_56 (by decide) ?_
            first
              | (exfalso; omega)
              | (exact h0 (fun q => by
                   have hk := kw_16.mp (show kx0 (M 931) s.1 s.2.1 = 16 by omega)
                   omega))
        · skip
          refine e_iconst 56 dX9_spells_55 rfl ?_
          refine e_zret dX9_spells_56 (by decide) ?_
          first
            | (exfalso; omega)
            | (exact h0 (fun q => by
                 have hk := kw_16.mp (show kx0 (M 931) s.1 s.2.1 = 16 by omega)
                 omega))
      · skip
        refine e_iconst 56 dX9_spells_55 rfl ?_
        refine e_zret dX9_spells_56 (by decide) ?_
        first
          | (exfalso; omega)
          | (exact h0 (fun q => by
               have hk := kw_16.mp (show kx0 (M 931) s.1 s.2.1 = 16 by omega)
               omega))
    · skip
      refine e_iconst 25 dX9_spells_24 rfl ?_
      refine e_zret dX9_spells_25 (by decide) ?_
      first
        | (exfalso; omega)
        | (exact h0 (fun q => by
             have hk := kw_16.mp (show kx0 (M 931) s.1 s.2.1 = 16 by omega)
             omega))

theorem c_spells_17 {M Z : jM} {n : Int} {Q : Int → jM → Prop} (hM : CM M n) {s : PS} (hZ : CTk M Z n s) (hI : PI n s) (h1 : s.2.2.1 = 17 → Q 1 Z) (h0 : s.2.2.1 ≠ 17 → Q 0 Z) : jCt yX9_spells cX9_spells 3 (some .boolean) 5 [jR 883, jF 21] Z Q := by
  refine jCt_of mt_yX9_spells (Nat.le_of_ble_eq_true rfl) (fun X => ?_)
  have e3 := hZ.2.2.2.1.1
  have e5 := hZ.2.2.2.1.2.1
  have eT := hZ.2.2.2.1.2.2
  have hi1 := hI.1
  have hi2 := hI.2.1
  have hn0 := hM.1
  have e84 : Z 884 = M 884 := hZ.1 884 (by omega)
  refine e_aload_n (i := 0) 1 dX9_spells_0 rfl rfl rfl ?_
  refine e_geti (j := 4) 4 fl_9_40 dX9_spells_1 at_883 (by decide) rfl rfl (fun r1 => ?_)
  refine e_iconst 5 dX9_spells_4 rfl ?_
  refine e_icmp_ne 8 24 dX9_spells_5 (by omega) (by decide) (by decide) rfl (fun b5 => ?_) (fun b5 => ?_)
  · skip
    refine e_iconst 25 dX9_spells_24 rfl ?_
    refine e_zret dX9_spells_25 (by decide) ?_
    first
      | (exfalso; omega)
      | (exact h0 (fun q => by
           have hk := kw_17.mp (show kx0 (M 931) s.1 s.2.1 = 17 by omega)
           omega))
  · skip
    refine e_aload_n (i := 0) 9 dX9_spells_8 rfl rfl rfl ?_
    refine e_geti (j := 3) 12 fl_9_28 dX9_spells_9 at_883 (by decide) rfl rfl (fun r9 => ?_)
    refine e_aload_n (i := 0) 13 dX9_spells_12 rfl rfl rfl ?_
    refine e_geti (j := 5) 16 fl_9_34 dX9_spells_13 at_883 (by decide) rfl rfl (fun r13 => ?_)
    refine e_isub 17 dX9_spells_16 rfl ?_
    refine e_aloadF_n (i := 1) 18 dX9_spells_17 rfl rfl rfl ?_
    refine e_callF (av := []) 21 (i := 15) (by decide) mt_yJ_len mv_yJ_len wd_559 (by decide) dX9_spells_18 rfl rfl rfl (Nat.le_of_ble_eq_true rfl) (jroom (by decide)) rfl (c_strlen (i := 15) (z := 5) (by decide) (by decide) ?_)
    dsimp only [jpush]
    refine e_icmp_eq 24 26 dX9_spells_21 (by omega) (by decide) (by decide) rfl (fun b21 => ?_) (fun b21 => ?_)
    · skip
      have y0 := hM.2 (s.1) (by omega) (by omega)
      have z0 := w8_c y0.1
      have x0 := y0.2
      have y1 := hM.2 (s.1 + 1) (by omega) (by omega)
      have z1 := w8_c y1.1
      have x1 := y1.2
      have y2 := hM.2 (s.1 + 2) (by omega) (by omega)
      have z2 := w8_c y2.1
      have x2 := y2.2
      have y3 := hM.2 (s.1 + 3) (by omega) (by omega)
      have z3 := w8_c y3.1
      have x3 := y3.2
      have y4 := hM.2 (s.1 + 4) (by omega) (by omega)
      have z4 := w8_c y4.1
      have x4 := y4.2
      refine e_iconst 27 dX9_spells_26 rfl ?_
      refine e_istore_n (i := 2) (lsn := [(2, _), (0, _), (1, _)]) 28 dX9_spells_27 rfl (by decide) rfl rfl ?_
      refine e_iload_n (i := 2) 29 dX9_spells_28 rfl rfl rfl ?_
      refine e_aloadF_n (i := 1) 30 dX9_spells_29 rfl rfl rfl ?_
      refine e_callF (av := []) 33 (i := 15) (by decide) mt_yJ_len mv_yJ_len wd_559 (by decide) dX9_spells_30 rfl rfl rfl (Nat.le_of_ble_eq_true rfl) (jroom (by decide)) rfl (c_strlen (i := 15) (z := 5) (by decide) (by decide) ?_)
      dsimp only [jpush]
      refine e_icmp_ge 36 63 dX9_spells_33 (by decide) (by decide) (by decide) rfl (fun h => absurd h (by decide)) (fun _ => ?_)
      refine e_aload_n (i := 0) 37 dX9_spells_36 rfl rfl rfl ?_
      refine e_getr (j := 0) 40 fl_9_9 dX9_spells_37 at_883 rfl rfl tp_883_0 rfl ?_
      refine e_aload_n (i := 0) 41 dX9_spells_40 rfl rfl rfl ?_
      refine e_geti (j := 5) 44 fl_9_34 dX9_spells_41 at_883 (by decide) rfl rfl (fun r41 => ?_)
      refine e_iload_n (i := 2) 45 dX9_spells_44 rfl rfl rfl ?_
      refine e_iadd 46 dX9_spells_45 rfl ?_
      refine e_bald 47 dX9_spells_46 ar_884 (by omega) (by omega) rfl (fun r46 => ?_)
      simp only [e5, e84, Int.reduceAdd, Int.add_zero] at r46 ⊢
      refine e_aloadF_n (i := 1) 48 dX9_spells_47 rfl rfl rfl ?_
      refine e_iload_n (i := 2) 49 dX9_spells_48 rfl rfl rfl ?_
      refine e_callF (av := [jI _]) 52 (i := 15) (by decide) mt_yJ_charAt mv_yJ_charAt wd_569 (by decide) dX9_spells_49 rfl rfl rfl (Nat.le_of_ble_eq_true rfl) (jroom (by decide)) rfl (c_charAt (i := 15) (k := 0) (z := 97) (by decide) (by decide) (by decide +kernel) ?_)
      dsimp only [jpush]
      refine e_icmp_eq 55 57 dX9_spells_52 (by omega) (by decide) (by decide) rfl (fun b52 => ?_) (fun b52 => ?_)
      · skip
        refine e_iinc (lsn := [(2, _), (0, _), (1, _)]) 60 dX9_spells_57 rfl (by decide) rfl rfl ?_
        refine e_goto 28 dX9_spells_60 (by decide) ?_
        refine e_iload_n (i := 2) 29 dX9_spells_28 rfl rfl rfl ?_
        refine e_aloadF_n (i := 1) 30 dX9_spells_29 rfl rfl rfl ?_
        refine e_callF (av := []) 33 (i := 15) (by decide) mt_yJ_len mv_yJ_len wd_559 (by decide) dX9_spells_30 rfl rfl rfl (Nat.le_of_ble_eq_true rfl) (jroom (by decide)) rfl (c_strlen (i := 15) (z := 5) (by decide) (by decide) ?_)
        dsimp only [jpush]
        refine e_icmp_ge 36 63 dX9_spells_33 (by decide) (by decide) (by decide) rfl (fun h => absurd h (by decide)) (fun _ => ?_)
        refine e_aload_n (i := 0) 37 dX9_spells_36 rfl rfl rfl ?_
        refine e_getr (j := 0) 40 fl_9_9 dX9_spells_37 at_883 rfl rfl tp_883_0 rfl ?_
        refine e_aload_n (i := 0) 41 dX9_spells_40 rfl rfl rfl ?_
        refine e_geti (j := 5) 44 fl_9_34 dX9_spells_41 at_883 (by decide) rfl rfl (fun r41 => ?_)
        refine e_iload_n (i := 2) 45 dX9_spells_44 rfl rfl rfl ?_
        refine e_iadd 46 dX9_spells_45 rfl ?_
        refine e_bald 47 dX9_spells_46 ar_884 (by omega) (by omega) rfl (fun r46 => ?_)
        simp only [e5, e84, Int.reduceAdd, Int.add_zero] at r46 ⊢
        refine e_aloadF_n (i := 1) 48 dX9_spells_47 rfl rfl rfl ?_
        refine e_iload_n (i := 2) 49 dX9_spells_48 rfl rfl rfl ?_
        refine e_callF (av := [jI _]) 52 (i := 15) (by decide) mt_yJ_charAt mv_yJ_charAt wd_569 (by decide) dX9_spells_49 rfl rfl rfl (Nat.le_of_ble_eq_true rfl) (jroom (by decide)) rfl (c_charAt (i := 15) (k := 1) (z := 98) (by decide) (by decide) (by decide +kernel) ?_)
        dsimp only [jpush]
        refine e_icmp_eq 55 57 dX9_spells_52 (by omega) (by decide) (by decide) rfl (fun b52 => ?_) (fun b52 => ?_)
        · skip
          refine e_iinc (lsn := [(2, _), (0, _), (1, _)]) 60 dX9_spells_57 rfl (by decide) rfl rfl ?_
          refine e_goto 28 dX9_spells_60 (by decide) ?_
          refine e_iload_n (i := 2) 29 dX9_spells_28 rfl rfl rfl ?_
          refine e_aloadF_n (i := 1) 30 dX9_spells_29 rfl rfl rfl ?_
          refine e_callF (av := []) 33 (i := 15) (by decide) mt_yJ_len mv_yJ_len wd_559 (by decide) dX9_spells_30 rfl rfl rfl (Nat.le_of_ble_eq_true rfl) (jroom (by decide)) rfl (c_strlen (i := 15) (z := 5) (by decide) (by decide) ?_)
          dsimp only [jpush]
          refine e_icmp_ge 36 63 dX9_spells_33 (by decide) (by decide) (by decide) rfl (fun h => absurd h (by decide)) (fun _ => ?_)
          refine e_aload_n (i := 0) 37 dX9_spells_36 rfl rfl rfl ?_
          refine e_getr (j := 0) 40 fl_9_9 dX9_spells_37 at_883 rfl rfl tp_883_0 rfl ?_
          refine e_aload_n (i := 0) 41 dX9_spells_40 rfl rfl rfl ?_
          refine e_geti (j := 5) 44 fl_9_34 dX9_spells_41 at_883 (by decide) rfl rfl (fun r41 => ?_)
          refine e_iload_n (i := 2) 45 dX9_spells_44 rfl rfl rfl ?_
          refine e_iadd 46 dX9_spells_45 rfl ?_
          refine e_bald 47 dX9_spells_46 ar_884 (by omega) (by omega) rfl (fun r46 => ?_)
          simp only [e5, e84, Int.reduceAdd, Int.add_zero] at r46 ⊢
          refine e_aloadF_n (i := 1) 48 dX9_spells_47 rfl rfl rfl ?_
          refine e_iload_n (i := 2) 49 dX9_spells_48 rfl rfl rfl ?_
          refine e_callF (av := [jI _]) 52 (i := 15) (by decide) mt_yJ_charAt mv_yJ_charAt wd_569 (by decide) dX9_spells_49 rfl rfl rfl (Nat.le_of_ble_eq_true rfl) (jroom (by decide)) rfl (c_charAt (i := 15) (k := 2) (z := 111) (by decide) (by decide) (by decide +kernel) ?_)
          dsimp only [jpush]
          refine e_icmp_eq 55 57 dX9_spells_52 (by omega) (by decide) (by decide) rfl (fun b52 => ?_) (fun b52 => ?_)
          · skip
            refine e_iinc (lsn := [(2, _), (0, _), (1, _)]) 60 dX9_spells_57 rfl (by decide) rfl rfl ?_
            refine e_goto 28 dX9_spells_60 (by decide) ?_
            refine e_iload_n (i := 2) 29 dX9_spells_28 rfl rfl rfl ?_
            refine e_aloadF_n (i := 1) 30 dX9_spells_29 rfl rfl rfl ?_
            refine e_callF (av := []) 33 (i := 15) (by decide) mt_yJ_len mv_yJ_len wd_559 (by decide) dX9_spells_30 rfl rfl rfl (Nat.le_of_ble_eq_true rfl) (jroom (by decide)) rfl (c_strlen (i := 15) (z := 5) (by decide) (by decide) ?_)
            dsimp only [jpush]
            refine e_icmp_ge 36 63 dX9_spells_33 (by decide) (by decide) (by decide) rfl (fun h => absurd h (by decide)) (fun _ => ?_)
            refine e_aload_n (i := 0) 37 dX9_spells_36 rfl rfl rfl ?_
            refine e_getr (j := 0) 40 fl_9_9 dX9_spells_37 at_883 rfl rfl tp_883_0 rfl ?_
            refine e_aload_n (i := 0) 41 dX9_spells_40 rfl rfl rfl ?_
            refine e_geti (j := 5) 44 fl_9_34 dX9_spells_41 at_883 (by decide) rfl rfl (fun r41 => ?_)
            refine e_iload_n (i := 2) 45 dX9_spells_44 rfl rfl rfl ?_
            refine e_iadd 46 dX9_spells_45 rfl ?_
            refine e_bald 47 dX9_spells_46 ar_884 (by omega) (by omega) rfl (fun r46 => ?_)
            simp only [e5, e84, Int.reduceAdd, Int.add_zero] at r46 ⊢
            refine e_aloadF_n (i := 1) 48 dX9_spells_47 rfl rfl rfl ?_
            refine e_iload_n (i := 2) 49 dX9_spells_48 rfl rfl rfl ?_
            refine e_callF (av := [jI _]) 52 (i := 15) (by decide) mt_yJ_charAt mv_yJ_charAt wd_569 (by decide) dX9_spells_49 rfl rfl rfl (Nat.le_of_ble_eq_true rfl) (jroom (by decide)) rfl (c_charAt (i := 15) (k := 3) (z := 118) (by decide) (by decide) (by decide +kernel) ?_)
            dsimp only [jpush]
            refine e_icmp_eq 55 57 dX9_spells_52 (by omega) (by decide) (by decide) rfl (fun b52 => ?_) (fun b52 => ?_)
            · skip
              refine e_iinc (lsn := [(2, _), (0, _), (1, _)]) 60 dX9_spells_57 rfl (by decide) rfl rfl ?_
              refine e_goto 28 dX9_spells_60 (by decide) ?_
              refine e_iload_n (i := 2) 29 dX9_spells_28 rfl rfl rfl ?_
              refine e_aloadF_n (i := 1) 30 dX9_spells_29 rfl rfl rfl ?_
              refine e_callF (av := []) 33 (i := 15) (by decide) mt_yJ_len mv_yJ_len wd_559 (by decide) dX9_spells_30 rfl rfl rfl (Nat.le_of_ble_eq_true rfl) (jroom (by decide)) rfl (c_strlen (i := 15) (z := 5) (by decide) (by decide) ?_)
              dsimp only [jpush]
              refine e_icmp_ge 36 63 dX9_spells_33 (by decide) (by decide) (by decide) rfl (fun h => absurd h (by decide)) (fun _ => ?_)
              refine e_aload_n (i := 0) 37 dX9_spells_36 rfl rfl rfl ?_
              refine e_getr (j := 0) 40 fl_9_9 dX9_spells_37 at_883 rfl rfl tp_883_0 rfl ?_
              refine e_aload_n (i := 0) 41 dX9_spells_40 rfl rfl rfl ?_
              refine e_geti (j := 5) 44 fl_9_34 dX9_spells_41 at_883 (by decide) rfl rfl (fun r41 => ?_)
              refine e_iload_n (i := 2) 45 dX9_spells_44 rfl rfl rfl ?_
              refine e_iadd 46 dX9_spells_45 rfl ?_
              refine e_bald 47 dX9_spells_46 ar_884 (by omega) (by omega) rfl (fun r46 => ?_)
              simp only [e5, e84, Int.reduceAdd, Int.add_zero] at r46 ⊢
              refine e_aloadF_n (i := 1) 48 dX9_spells_47 rfl rfl rfl ?_
              refine e_iload_n (i := 2) 49 dX9_spells_48 rfl rfl rfl ?_
              refine e_callF (av := [jI _]) 52 (i := 15) (by decide) mt_yJ_charAt mv_yJ_charAt wd_569 (by decide) dX9_spells_49 rfl rfl rfl (Nat.le_of_ble_eq_true rfl) (jroom (by decide)) rfl (c_charAt (i := 15) (k := 4) (z := 101) (by decide) (by decide) (by decide +kernel) ?_)
              dsimp only [jpush]
              refine e_icmp_eq 55 57 dX9_spells_52 (by omega) (by decide) (by decide) rfl (fun b52 => ?_) (fun b52 => ?_)
              · skip
                refine e_iinc (lsn := [(2, _), (0, _), (1, _)]) 60 dX9_spells_57 rfl (by decide) rfl rfl ?_
                refine e_goto 28 dX9_spells_60 (by decide) ?_
                refine e_iload_n (i := 2) 29 dX9_spells_28 rfl rfl rfl ?_
                refine e_aloadF_n (i := 1) 30 dX9_spells_29 rfl rfl rfl ?_
                refine e_callF (av := []) 33 (i := 15) (by decide) mt_yJ_len mv_yJ_len wd_559 (by decide) dX9_spells_30 rfl rfl rfl (Nat.le_of_ble_eq_true rfl) (jroom (by decide)) rfl (c_strlen (i := 15) (z := 5) (by decide) (by decide) ?_)
                dsimp only [jpush]
                refine e_icmp_ge 36 63 dX9_spells_33 (by decide) (by decide) (by decide) rfl (fun _ => ?_) (fun h => absurd h (by decide))
                refine e_iconst 64 dX9_spells_63 rfl ?_
                refine e_zret dX9_spells_64 (by decide) ?_
                first
                  | (exfalso; omega)
                  | (exact h1 (by
                       have hk := kw_17.mpr (show isW17 (M 931) s.1 s.2.1 by omega)
                       omega))
              · skip
                refine e_iconst 56 dX9_spells_55 rfl ?_
                refine e_zret dX9_spells_56 (by decide) ?_
                first
                  | (exfalso; omega)
                  | (exact h0 (fun q => by
                       have hk := kw_17.mp (show kx0 (M 931) s.1 s.2.1 = 17 by omega)
                       omega))
            · skip
              refine e_iconst 56 dX9_spells_55 rfl ?_
              refine e_zret dX9_spells_56 (by decide) ?_
              first
                | (exfalso; omega)
                | (exact h0 (fun q => by
                     have hk := kw_17.mp (show kx0 (M 931) s.1 s.2.1 = 17 by omega)
                     omega))
          · skip
            refine e_iconst 56 dX9_spells_55 rfl ?_
            refine e_zret dX9_spells_56 (by decide) ?_
            first
              | (exfalso; omega)
              | (exact h0 (fun q => by
                   have hk := kw_17.mp (show kx0 (M 931) s.1 s.2.1 = 17 by omega)
                   omega))
        · skip
          refine e_iconst 56 dX9_spells_55 rfl ?_
          refine e_zret dX9_spells_56 (by decide) ?_
          first
            | (exfalso; omega)
            | (exact h0 (fun q => by
                 have hk := kw_17.mp (show kx0 (M 931) s.1 s.2.1 = 17 by omega)
                 omega))
      · skip
        refine e_iconst 56 dX9_spells_55 rfl ?_
        refine e_zret dX9_spells_56 (by decide) ?_
        first
          | (exfalso; omega)
          | (exact h0 (fun q => by
               have hk := kw_17.mp (show kx0 (M 931) s.1 s.2.1 = 17 by omega)
               omega))
    · skip
      refine e_iconst 25 dX9_spells_24 rfl ?_
      refine e_zret dX9_spells_25 (by decide) ?_
      first
        | (exfalso; omega)
        | (exact h0 (fun q => by
             have hk := kw_17.mp (show kx0 (M 931) s.1 s.2.1 = 17 by omega)
             omega))

theorem c_spells_18 {M Z : jM} {n : Int} {Q : Int → jM → Prop} (hM : CM M n) {s : PS} (hZ : CTk M Z n s) (hI : PI n s) (h1 : s.2.2.1 = 18 → Q 1 Z) (h0 : s.2.2.1 ≠ 18 → Q 0 Z) : jCt yX9_spells cX9_spells 3 (some .boolean) 5 [jR 883, jF 22] Z Q := by
  refine jCt_of mt_yX9_spells (Nat.le_of_ble_eq_true rfl) (fun X => ?_)
  have e3 := hZ.2.2.2.1.1
  have e5 := hZ.2.2.2.1.2.1
  have eT := hZ.2.2.2.1.2.2
  have hi1 := hI.1
  have hi2 := hI.2.1
  have hn0 := hM.1
  have e84 : Z 884 = M 884 := hZ.1 884 (by omega)
  refine e_aload_n (i := 0) 1 dX9_spells_0 rfl rfl rfl ?_
  refine e_geti (j := 4) 4 fl_9_40 dX9_spells_1 at_883 (by decide) rfl rfl (fun r1 => ?_)
  refine e_iconst 5 dX9_spells_4 rfl ?_
  refine e_icmp_ne 8 24 dX9_spells_5 (by omega) (by decide) (by decide) rfl (fun b5 => ?_) (fun b5 => ?_)
  · skip
    refine e_iconst 25 dX9_spells_24 rfl ?_
    refine e_zret dX9_spells_25 (by decide) ?_
    first
      | (exfalso; omega)
      | (exact h0 (fun q => by
           have hk := kw_18.mp (show kx0 (M 931) s.1 s.2.1 = 18 by omega)
           omega))
  · skip
    refine e_aload_n (i := 0) 9 dX9_spells_8 rfl rfl rfl ?_
    refine e_geti (j := 3) 12 fl_9_28 dX9_spells_9 at_883 (by decide) rfl rfl (fun r9 => ?_)
    refine e_aload_n (i := 0) 13 dX9_spells_12 rfl rfl rfl ?_
    refine e_geti (j := 5) 16 fl_9_34 dX9_spells_13 at_883 (by decide) rfl rfl (fun r13 => ?_)
    refine e_isub 17 dX9_spells_16 rfl ?_
    refine e_aloadF_n (i := 1) 18 dX9_spells_17 rfl rfl rfl ?_
    refine e_callF (av := []) 21 (i := 16) (by decide) mt_yJ_len mv_yJ_len wd_559 (by decide) dX9_spells_18 rfl rfl rfl (Nat.le_of_ble_eq_true rfl) (jroom (by decide)) rfl (c_strlen (i := 16) (z := 5) (by decide) (by decide) ?_)
    dsimp only [jpush]
    refine e_icmp_eq 24 26 dX9_spells_21 (by omega) (by decide) (by decide) rfl (fun b21 => ?_) (fun b21 => ?_)
    · skip
      have y0 := hM.2 (s.1) (by omega) (by omega)
      have z0 := w8_c y0.1
      have x0 := y0.2
      have y1 := hM.2 (s.1 + 1) (by omega) (by omega)
      have z1 := w8_c y1.1
      have x1 := y1.2
      have y2 := hM.2 (s.1 + 2) (by omega) (by omega)
      have z2 := w8_c y2.1
      have x2 := y2.2
      have y3 := hM.2 (s.1 + 3) (by omega) (by omega)
      have z3 := w8_c y3.1
      have x3 := y3.2
      have y4 := hM.2 (s.1 + 4) (by omega) (by omega)
      have z4 := w8_c y4.1
      have x4 := y4.2
      refine e_iconst 27 dX9_spells_26 rfl ?_
      refine e_istore_n (i := 2) (lsn := [(2, _), (0, _), (1, _)]) 28 dX9_spells_27 rfl (by decide) rfl rfl ?_
      refine e_iload_n (i := 2) 29 dX9_spells_28 rfl rfl rfl ?_
      refine e_aloadF_n (i := 1) 30 dX9_spells_29 rfl rfl rfl ?_
      refine e_callF (av := []) 33 (i := 16) (by decide) mt_yJ_len mv_yJ_len wd_559 (by decide) dX9_spells_30 rfl rfl rfl (Nat.le_of_ble_eq_true rfl) (jroom (by decide)) rfl (c_strlen (i := 16) (z := 5) (by decide) (by decide) ?_)
      dsimp only [jpush]
      refine e_icmp_ge 36 63 dX9_spells_33 (by decide) (by decide) (by decide) rfl (fun h => absurd h (by decide)) (fun _ => ?_)
      refine e_aload_n (i := 0) 37 dX9_spells_36 rfl rfl rfl ?_
      refine e_getr (j := 0) 40 fl_9_9 dX9_spells_37 at_883 rfl rfl tp_883_0 rfl ?_
      refine e_aload_n (i := 0) 41 dX9_spells_40 rfl rfl rfl ?_
      refine e_geti (j := 5) 44 fl_9_34 dX9_spells_41 at_883 (by decide) rfl rfl (fun r41 => ?_)
      refine e_iload_n (i := 2) 45 dX9_spells_44 rfl rfl rfl ?_
      refine e_iadd 46 dX9_spells_45 rfl ?_
      refine e_bald 47 dX9_spells_46 ar_884 (by omega) (by omega) rfl (fun r46 => ?_)
      simp only [e5, e84, Int.reduceAdd, Int.add_zero] at r46 ⊢
      refine e_aloadF_n (i := 1) 48 dX9_spells_47 rfl rfl rfl ?_
      refine e_iload_n (i := 2) 49 dX9_spells_48 rfl rfl rfl ?_
      refine e_callF (av := [jI _]) 52 (i := 16) (by decide) mt_yJ_charAt mv_yJ_charAt wd_569 (by decide) dX9_spells_49 rfl rfl rfl (Nat.le_of_ble_eq_true rfl) (jroom (by decide)) rfl (c_charAt (i := 16) (k := 0) (z := 115) (by decide) (by decide) (by decide +kernel) ?_)
      dsimp only [jpush]
      refine e_icmp_eq 55 57 dX9_spells_52 (by omega) (by decide) (by decide) rfl (fun b52 => ?_) (fun b52 => ?_)
      · skip
        refine e_iinc (lsn := [(2, _), (0, _), (1, _)]) 60 dX9_spells_57 rfl (by decide) rfl rfl ?_
        refine e_goto 28 dX9_spells_60 (by decide) ?_
        refine e_iload_n (i := 2) 29 dX9_spells_28 rfl rfl rfl ?_
        refine e_aloadF_n (i := 1) 30 dX9_spells_29 rfl rfl rfl ?_
        refine e_callF (av := []) 33 (i := 16) (by decide) mt_yJ_len mv_yJ_len wd_559 (by decide) dX9_spells_30 rfl rfl rfl (Nat.le_of_ble_eq_true rfl) (jroom (by decide)) rfl (c_strlen (i := 16) (z := 5) (by decide) (by decide) ?_)
        dsimp only [jpush]
        refine e_icmp_ge 36 63 dX9_spells_33 (by decide) (by decide) (by decide) rfl (fun h => absurd h (by decide)) (fun _ => ?_)
        refine e_aload_n (i := 0) 37 dX9_spells_36 rfl rfl rfl ?_
        refine e_getr (j := 0) 40 fl_9_9 dX9_spells_37 at_883 rfl rfl tp_883_0 rfl ?_
        refine e_aload_n (i := 0) 41 dX9_spells_40 rfl rfl rfl ?_
        refine e_geti (j := 5) 44 fl_9_34 dX9_spells_41 at_883 (by decide) rfl rfl (fun r41 => ?_)
        refine e_iload_n (i := 2) 45 dX9_spells_44 rfl rfl rfl ?_
        refine e_iadd 46 dX9_spells_45 rfl ?_
        refine e_bald 47 dX9_spells_46 ar_884 (by omega) (by omega) rfl (fun r46 => ?_)
        simp only [e5, e84, Int.reduceAdd, Int.add_zero] at r46 ⊢
        refine e_aloadF_n (i := 1) 48 dX9_spells_47 rfl rfl rfl ?_
        refine e_iload_n (i := 2) 49 dX9_spells_48 rfl rfl rfl ?_
        refine e_callF (av := [jI _]) 52 (i := 16) (by decide) mt_yJ_charAt mv_yJ_charAt wd_569 (by decide) dX9_spells_49 rfl rfl rfl (Nat.le_of_ble_eq_true rfl) (jroom (by decide)) rfl (c_charAt (i := 16) (k := 1) (z := 105) (by decide) (by decide) (by decide +kernel) ?_)
        dsimp only [jpush]
        refine e_icmp_eq 55 57 dX9_spells_52 (by omega) (by decide) (by decide) rfl (fun b52 => ?_) (fun b52 => ?_)
        · skip
          refine e_iinc (lsn := [(2, _), (0, _), (1, _)]) 60 dX9_spells_57 rfl (by decide) rfl rfl ?_
          refine e_goto 28 dX9_spells_60 (by decide) ?_
          refine e_iload_n (i := 2) 29 dX9_spells_28 rfl rfl rfl ?_
          refine e_aloadF_n (i := 1) 30 dX9_spells_29 rfl rfl rfl ?_
          refine e_callF (av := []) 33 (i := 16) (by decide) mt_yJ_len mv_yJ_len wd_559 (by decide) dX9_spells_30 rfl rfl rfl (Nat.le_of_ble_eq_true rfl) (jroom (by decide)) rfl (c_strlen (i := 16) (z := 5) (by decide) (by decide) ?_)
          dsimp only [jpush]
          refine e_icmp_ge 36 63 dX9_spells_33 (by decide) (by decide) (by decide) rfl (fun h => absurd h (by decide)) (fun _ => ?_)
          refine e_aload_n (i := 0) 37 dX9_spells_36 rfl rfl rfl ?_
          refine e_getr (j := 0) 40 fl_9_9 dX9_spells_37 at_883 rfl rfl tp_883_0 rfl ?_
          refine e_aload_n (i := 0) 41 dX9_spells_40 rfl rfl rfl ?_
          refine e_geti (j := 5) 44 fl_9_34 dX9_spells_41 at_883 (by decide) rfl rfl (fun r41 => ?_)
          refine e_iload_n (i := 2) 45 dX9_spells_44 rfl rfl rfl ?_
          refine e_iadd 46 dX9_spells_45 rfl ?_
          refine e_bald 47 dX9_spells_46 ar_884 (by omega) (by omega) rfl (fun r46 => ?_)
          simp only [e5, e84, Int.reduceAdd, Int.add_zero] at r46 ⊢
          refine e_aloadF_n (i := 1) 48 dX9_spells_47 rfl rfl rfl ?_
          refine e_iload_n (i := 2) 49 dX9_spells_48 rfl rfl rfl ?_
          refine e_callF (av := [jI _]) 52 (i := 16) (by decide) mt_yJ_charAt mv_yJ_charAt wd_569 (by decide) dX9_spells_49 rfl rfl rfl (Nat.le_of_ble_eq_true rfl) (jroom (by decide)) rfl (c_charAt (i := 16) (k := 2) (z := 110) (by decide) (by decide) (by decide +kernel) ?_)
          dsimp only [jpush]
          refine e_icmp_eq 55 57 dX9_spells_52 (by omega) (by decide) (by decide) rfl (fun b52 => ?_) (fun b52 => ?_)
          · skip
            refine e_iinc (lsn := [(2, _), (0, _), (1, _)]) 60 dX9_spells_57 rfl (by decide) rfl rfl ?_
            refine e_goto 28 dX9_spells_60 (by decide) ?_
            refine e_iload_n (i := 2) 29 dX9_spells_28 rfl rfl rfl ?_
            refine e_aloadF_n (i := 1) 30 dX9_spells_29 rfl rfl rfl ?_
            refine e_callF (av := []) 33 (i := 16) (by decide) mt_yJ_len mv_yJ_len wd_559 (by decide) dX9_spells_30 rfl rfl rfl (Nat.le_of_ble_eq_true rfl) (jroom (by decide)) rfl (c_strlen (i := 16) (z := 5) (by decide) (by decide) ?_)
            dsimp only [jpush]
            refine e_icmp_ge 36 63 dX9_spells_33 (by decide) (by decide) (by decide) rfl (fun h => absurd h (by decide)) (fun _ => ?_)
            refine e_aload_n (i := 0) 37 dX9_spells_36 rfl rfl rfl ?_
            refine e_getr (j := 0) 40 fl_9_9 dX9_spells_37 at_883 rfl rfl tp_883_0 rfl ?_
            refine e_aload_n (i := 0) 41 dX9_spells_40 rfl rfl rfl ?_
            refine e_geti (j := 5) 44 fl_9_34 dX9_spells_41 at_883 (by decide) rfl rfl (fun r41 => ?_)
            refine e_iload_n (i := 2) 45 dX9_spells_44 rfl rfl rfl ?_
            refine e_iadd 46 dX9_spells_45 rfl ?_
            refine e_bald 47 dX9_spells_46 ar_884 (by omega) (by omega) rfl (fun r46 => ?_)
            simp only [e5, e84, Int.reduceAdd, Int.add_zero] at r46 ⊢
            refine e_aloadF_n (i := 1) 48 dX9_spells_47 rfl rfl rfl ?_
            refine e_iload_n (i := 2) 49 dX9_spells_48 rfl rfl rfl ?_
            refine e_callF (av := [jI _]) 52 (i := 16) (by decide) mt_yJ_charAt mv_yJ_charAt wd_569 (by decide) dX9_spells_49 rfl rfl rfl (Nat.le_of_ble_eq_true rfl) (jroom (by decide)) rfl (c_charAt (i := 16) (k := 3) (z := 99) (by decide) (by decide) (by decide +kernel) ?_)
            dsimp only [jpush]
            refine e_icmp_eq 55 57 dX9_spells_52 (by omega) (by decide) (by decide) rfl (fun b52 => ?_) (fun b52 => ?_)
            · skip
              refine e_iinc (lsn := [(2, _), (0, _), (1, _)]) 60 dX9_spells_57 rfl (by decide) rfl rfl ?_
              refine e_goto 28 dX9_spells_60 (by decide) ?_
              refine e_iload_n (i := 2) 29 dX9_spells_28 rfl rfl rfl ?_
              refine e_aloadF_n (i := 1) 30 dX9_spells_29 rfl rfl rfl ?_
              refine e_callF (av := []) 33 (i := 16) (by decide) mt_yJ_len mv_yJ_len wd_559 (by decide) dX9_spells_30 rfl rfl rfl (Nat.le_of_ble_eq_true rfl) (jroom (by decide)) rfl (c_strlen (i := 16) (z := 5) (by decide) (by decide) ?_)
              dsimp only [jpush]
              refine e_icmp_ge 36 63 dX9_spells_33 (by decide) (by decide) (by decide) rfl (fun h => absurd h (by decide)) (fun _ => ?_)
              refine e_aload_n (i := 0) 37 dX9_spells_36 rfl rfl rfl ?_
              refine e_getr (j := 0) 40 fl_9_9 dX9_spells_37 at_883 rfl rfl tp_883_0 rfl ?_
              refine e_aload_n (i := 0) 41 dX9_spells_40 rfl rfl rfl ?_
              refine e_geti (j := 5) 44 fl_9_34 dX9_spells_41 at_883 (by decide) rfl rfl (fun r41 => ?_)
              refine e_iload_n (i := 2) 45 dX9_spells_44 rfl rfl rfl ?_
              refine e_iadd 46 dX9_spells_45 rfl ?_
              refine e_bald 47 dX9_spells_46 ar_884 (by omega) (by omega) rfl (fun r46 => ?_)
              simp only [e5, e84, Int.reduceAdd, Int.add_zero] at r46 ⊢
              refine e_aloadF_n (i := 1) 48 dX9_spells_47 rfl rfl rfl ?_
              refine e_iload_n (i := 2) 49 dX9_spells_48 rfl rfl rfl ?_
              refine e_callF (av := [jI _]) 52 (i := 16) (by decide) mt_yJ_charAt mv_yJ_charAt wd_569 (by decide) dX9_spells_49 rfl rfl rfl (Nat.le_of_ble_eq_true rfl) (jroom (by decide)) rfl (c_charAt (i := 16) (k := 4) (z := 101) (by decide) (by decide) (by decide +kernel) ?_)
              dsimp only [jpush]
              refine e_icmp_eq 55 57 dX9_spells_52 (by omega) (by decide) (by decide) rfl (fun b52 => ?_) (fun b52 => ?_)
              · skip
                refine e_iinc (lsn := [(2, _), (0, _), (1, _)]) 60 dX9_spells_57 rfl (by decide) rfl rfl ?_
                refine e_goto 28 dX9_spells_60 (by decide) ?_
                refine e_iload_n (i := 2) 29 dX9_spells_28 rfl rfl rfl ?_
                refine e_aloadF_n (i := 1) 30 dX9_spells_29 rfl rfl rfl ?_
                refine e_callF (av := []) 33 (i := 16) (by decide) mt_yJ_len mv_yJ_len wd_559 (by decide) dX9_spells_30 rfl rfl rfl (Nat.le_of_ble_eq_true rfl) (jroom (by decide)) rfl (c_strlen (i := 16) (z := 5) (by decide) (by decide) ?_)
                dsimp only [jpush]
                refine e_icmp_ge 36 63 dX9_spells_33 (by decide) (by decide) (by decide) rfl (fun _ => ?_) (fun h => absurd h (by decide))
                refine e_iconst 64 dX9_spells_63 rfl ?_
                refine e_zret dX9_spells_64 (by decide) ?_
                first
                  | (exfalso; omega)
                  | (exact h1 (by
                       have hk := kw_18.mpr (show isW18 (M 931) s.1 s.2.1 by omega)
                       omega))
              · skip
                refine e_iconst 56 dX9_spells_55 rfl ?_
                refine e_zret dX9_spells_56 (by decide) ?_
                first
                  | (exfalso; omega)
                  | (exact h0 (fun q => by
                       have hk := kw_18.mp (show kx0 (M 931) s.1 s.2.1 = 18 by omega)
                       omega))
            · skip
              refine e_iconst 56 dX9_spells_55 rfl ?_
              refine e_zret dX9_spells_56 (by decide) ?_
              first
                | (exfalso; omega)
                | (exact h0 (fun q => by
                     have hk := kw_18.mp (show kx0 (M 931) s.1 s.2.1 = 18 by omega)
                     omega))
          · skip
            refine e_iconst 56 dX9_spells_55 rfl ?_
            refine e_zret dX9_spells_56 (by decide) ?_
            first
              | (exfalso; omega)
              | (exact h0 (fun q => by
                   have hk := kw_18.mp (show kx0 (M 931) s.1 s.2.1 = 18 by omega)
                   omega))
        · skip
          refine e_iconst 56 dX9_spells_55 rfl ?_
          refine e_zret dX9_spells_56 (by decide) ?_
          first
            | (exfalso; omega)
            | (exact h0 (fun q => by
                 have hk := kw_18.mp (show kx0 (M 931) s.1 s.2.1 = 18 by omega)
                 omega))
      · skip
        refine e_iconst 56 dX9_spells_55 rfl ?_
        refine e_zret dX9_spells_56 (by decide) ?_
        first
          | (exfalso; omega)
          | (exact h0 (fun q => by
               have hk := kw_18.mp (show kx0 (M 931) s.1 s.2.1 = 18 by omega)
               omega))
    · skip
      refine e_iconst 25 dX9_spells_24 rfl ?_
      refine e_zret dX9_spells_25 (by decide) ?_
      first
        | (exfalso; omega)
        | (exact h0 (fun q => by
             have hk := kw_18.mp (show kx0 (M 931) s.1 s.2.1 = 18 by omega)
             omega))

theorem c_spells_19 {M Z : jM} {n : Int} {Q : Int → jM → Prop} (hM : CM M n) {s : PS} (hZ : CTk M Z n s) (hI : PI n s) (h1 : s.2.2.1 = 19 → Q 1 Z) (h0 : s.2.2.1 ≠ 19 → Q 0 Z) : jCt yX9_spells cX9_spells 3 (some .boolean) 5 [jR 883, jF 23] Z Q := by
  refine jCt_of mt_yX9_spells (Nat.le_of_ble_eq_true rfl) (fun X => ?_)
  have e3 := hZ.2.2.2.1.1
  have e5 := hZ.2.2.2.1.2.1
  have eT := hZ.2.2.2.1.2.2
  have hi1 := hI.1
  have hi2 := hI.2.1
  have hn0 := hM.1
  have e84 : Z 884 = M 884 := hZ.1 884 (by omega)
  refine e_aload_n (i := 0) 1 dX9_spells_0 rfl rfl rfl ?_
  refine e_geti (j := 4) 4 fl_9_40 dX9_spells_1 at_883 (by decide) rfl rfl (fun r1 => ?_)
  refine e_iconst 5 dX9_spells_4 rfl ?_
  refine e_icmp_ne 8 24 dX9_spells_5 (by omega) (by decide) (by decide) rfl (fun b5 => ?_) (fun b5 => ?_)
  · skip
    refine e_iconst 25 dX9_spells_24 rfl ?_
    refine e_zret dX9_spells_25 (by decide) ?_
    first
      | (exfalso; omega)
      | (exact h0 (fun q => by
           have hk := kw_19.mp (show kx0 (M 931) s.1 s.2.1 = 19 by omega)
           omega))
  · skip
    refine e_aload_n (i := 0) 9 dX9_spells_8 rfl rfl rfl ?_
    refine e_geti (j := 3) 12 fl_9_28 dX9_spells_9 at_883 (by decide) rfl rfl (fun r9 => ?_)
    refine e_aload_n (i := 0) 13 dX9_spells_12 rfl rfl rfl ?_
    refine e_geti (j := 5) 16 fl_9_34 dX9_spells_13 at_883 (by decide) rfl rfl (fun r13 => ?_)
    refine e_isub 17 dX9_spells_16 rfl ?_
    refine e_aloadF_n (i := 1) 18 dX9_spells_17 rfl rfl rfl ?_
    refine e_callF (av := []) 21 (i := 17) (by decide) mt_yJ_len mv_yJ_len wd_559 (by decide) dX9_spells_18 rfl rfl rfl (Nat.le_of_ble_eq_true rfl) (jroom (by decide)) rfl (c_strlen (i := 17) (z := 2) (by decide) (by decide) ?_)
    dsimp only [jpush]
    refine e_icmp_eq 24 26 dX9_spells_21 (by omega) (by decide) (by decide) rfl (fun b21 => ?_) (fun b21 => ?_)
    · skip
      have y0 := hM.2 (s.1) (by omega) (by omega)
      have z0 := w8_c y0.1
      have x0 := y0.2
      have y1 := hM.2 (s.1 + 1) (by omega) (by omega)
      have z1 := w8_c y1.1
      have x1 := y1.2
      refine e_iconst 27 dX9_spells_26 rfl ?_
      refine e_istore_n (i := 2) (lsn := [(2, _), (0, _), (1, _)]) 28 dX9_spells_27 rfl (by decide) rfl rfl ?_
      refine e_iload_n (i := 2) 29 dX9_spells_28 rfl rfl rfl ?_
      refine e_aloadF_n (i := 1) 30 dX9_spells_29 rfl rfl rfl ?_
      refine e_callF (av := []) 33 (i := 17) (by decide) mt_yJ_len mv_yJ_len wd_559 (by decide) dX9_spells_30 rfl rfl rfl (Nat.le_of_ble_eq_true rfl) (jroom (by decide)) rfl (c_strlen (i := 17) (z := 2) (by decide) (by decide) ?_)
      dsimp only [jpush]
      refine e_icmp_ge 36 63 dX9_spells_33 (by decide) (by decide) (by decide) rfl (fun h => absurd h (by decide)) (fun _ => ?_)
      refine e_aload_n (i := 0) 37 dX9_spells_36 rfl rfl rfl ?_
      refine e_getr (j := 0) 40 fl_9_9 dX9_spells_37 at_883 rfl rfl tp_883_0 rfl ?_
      refine e_aload_n (i := 0) 41 dX9_spells_40 rfl rfl rfl ?_
      refine e_geti (j := 5) 44 fl_9_34 dX9_spells_41 at_883 (by decide) rfl rfl (fun r41 => ?_)
      refine e_iload_n (i := 2) 45 dX9_spells_44 rfl rfl rfl ?_
      refine e_iadd 46 dX9_spells_45 rfl ?_
      refine e_bald 47 dX9_spells_46 ar_884 (by omega) (by omega) rfl (fun r46 => ?_)
      simp only [e5, e84, Int.reduceAdd, Int.add_zero] at r46 ⊢
      refine e_aloadF_n (i := 1) 48 dX9_spells_47 rfl rfl rfl ?_
      refine e_iload_n (i := 2) 49 dX9_spells_48 rfl rfl rfl ?_
      refine e_callF (av := [jI _]) 52 (i := 17) (by decide) mt_yJ_charAt mv_yJ_charAt wd_569 (by decide) dX9_spells_49 rfl rfl rfl (Nat.le_of_ble_eq_true rfl) (jroom (by decide)) rfl (c_charAt (i := 17) (k := 0) (z := 98) (by decide) (by decide) (by decide +kernel) ?_)
      dsimp only [jpush]
      refine e_icmp_eq 55 57 dX9_spells_52 (by omega) (by decide) (by decide) rfl (fun b52 => ?_) (fun b52 => ?_)
      · skip
        refine e_iinc (lsn := [(2, _), (0, _), (1, _)]) 60 dX9_spells_57 rfl (by decide) rfl rfl ?_
        refine e_goto 28 dX9_spells_60 (by decide) ?_
        refine e_iload_n (i := 2) 29 dX9_spells_28 rfl rfl rfl ?_
        refine e_aloadF_n (i := 1) 30 dX9_spells_29 rfl rfl rfl ?_
        refine e_callF (av := []) 33 (i := 17) (by decide) mt_yJ_len mv_yJ_len wd_559 (by decide) dX9_spells_30 rfl rfl rfl (Nat.le_of_ble_eq_true rfl) (jroom (by decide)) rfl (c_strlen (i := 17) (z := 2) (by decide) (by decide) ?_)
        dsimp only [jpush]
        refine e_icmp_ge 36 63 dX9_spells_33 (by decide) (by decide) (by decide) rfl (fun h => absurd h (by decide)) (fun _ => ?_)
        refine e_aload_n (i := 0) 37 dX9_spells_36 rfl rfl rfl ?_
        refine e_getr (j := 0) 40 fl_9_9 dX9_spells_37 at_883 rfl rfl tp_883_0 rfl ?_
        refine e_aload_n (i := 0) 41 dX9_spells_40 rfl rfl rfl ?_
        refine e_geti (j := 5) 44 fl_9_34 dX9_spells_41 at_883 (by decide) rfl rfl (fun r41 => ?_)
        refine e_iload_n (i := 2) 45 dX9_spells_44 rfl rfl rfl ?_
        refine e_iadd 46 dX9_spells_45 rfl ?_
        refine e_bald 47 dX9_spells_46 ar_884 (by omega) (by omega) rfl (fun r46 => ?_)
        simp only [e5, e84, Int.reduceAdd, Int.add_zero] at r46 ⊢
        refine e_aloadF_n (i := 1) 48 dX9_spells_47 rfl rfl rfl ?_
        refine e_iload_n (i := 2) 49 dX9_spells_48 rfl rfl rfl ?_
        refine e_callF (av := [jI _]) 52 (i := 17) (by decide) mt_yJ_charAt mv_yJ_charAt wd_569 (by decide) dX9_spells_49 rfl rfl rfl (Nat.le_of_ble_eq_true rfl) (jroom (by decide)) rfl (c_charAt (i := 17) (k := 1) (z := 121) (by decide) (by decide) (by decide +kernel) ?_)
        dsimp only [jpush]
        refine e_icmp_eq 55 57 dX9_spells_52 (by omega) (by decide) (by decide) rfl (fun b52 => ?_) (fun b52 => ?_)
        · skip
          refine e_iinc (lsn := [(2, _), (0, _), (1, _)]) 60 dX9_spells_57 rfl (by decide) rfl rfl ?_
          refine e_goto 28 dX9_spells_60 (by decide) ?_
          refine e_iload_n (i := 2) 29 dX9_spells_28 rfl rfl rfl ?_
          refine e_aloadF_n (i := 1) 30 dX9_spells_29 rfl rfl rfl ?_
          refine e_callF (av := []) 33 (i := 17) (by decide) mt_yJ_len mv_yJ_len wd_559 (by decide) dX9_spells_30 rfl rfl rfl (Nat.le_of_ble_eq_true rfl) (jroom (by decide)) rfl (c_strlen (i := 17) (z := 2) (by decide) (by decide) ?_)
          dsimp only [jpush]
          refine e_icmp_ge 36 63 dX9_spells_33 (by decide) (by decide) (by decide) rfl (fun _ => ?_) (fun h => absurd h (by decide))
          refine e_iconst 64 dX9_spells_63 rfl ?_
          refine e_zret dX9_spells_64 (by decide) ?_
          first
            | (exfalso; omega)
            | (exact h1 (by
                 have hk := kw_19.mpr (show isW19 (M 931) s.1 s.2.1 by omega)
                 omega))
        · skip
          refine e_iconst 56 dX9_spells_55 rfl ?_
          refine e_zret dX9_spells_56 (by decide) ?_
          first
            | (exfalso; omega)
            | (exact h0 (fun q => by
                 have hk := kw_19.mp (show kx0 (M 931) s.1 s.2.1 = 19 by omega)
                 omega))
      · skip
        refine e_iconst 56 dX9_spells_55 rfl ?_
        refine e_zret dX9_spells_56 (by decide) ?_
        first
          | (exfalso; omega)
          | (exact h0 (fun q => by
               have hk := kw_19.mp (show kx0 (M 931) s.1 s.2.1 = 19 by omega)
               omega))
    · skip
      refine e_iconst 25 dX9_spells_24 rfl ?_
      refine e_zret dX9_spells_25 (by decide) ?_
      first
        | (exfalso; omega)
        | (exact h0 (fun q => by
             have hk := kw_19.mp (show kx0 (M 931) s.1 s.2.1 = 19 by omega)
             omega))

theorem c_isSign {M Z : jM} {n : Int} {Q : Int → jM → Prop} (hM : CM M n) {s : PS} (hZ : CTk M Z n s) (hI : PI n s) {c k : Int} (hc : (c = 59 ∧ k = 22) ∨ (c = 40 ∧ k = 23) ∨ (c = 41 ∧ k = 24)) (h1 : s.2.2.1 = k → Q 1 Z) (h0 : s.2.2.1 ≠ k → Q 0 Z) : jCt yX9_isSign cX9_isSign 2 (some .boolean) 1 [jR 883, jI c] Z Q := by
  refine jCt_of mt_yX9_isSign (Nat.le_of_ble_eq_true rfl) (fun X => ?_)
  have e3 := hZ.2.2.2.1.1
  have e5 := hZ.2.2.2.1.2.1
  have eT := hZ.2.2.2.1.2.2
  have hi1 := hI.1
  have hi2 := hI.2.1
  have hn0 := hM.1
  refine e_aload_n (i := 0) 1 dX9_isSign_0 rfl rfl rfl ?_
  refine e_geti (j := 4) 4 fl_9_40 dX9_isSign_1 at_883 (by decide) rfl rfl (fun r1 => ?_)
  refine e_iconst 5 dX9_isSign_4 rfl ?_
  refine e_icmp_ne 8 20 dX9_isSign_5 (by omega) (by decide) (by decide) rfl (fun b5 => ?_) (fun b5 => ?_)
  · skip
    refine e_iconst 21 dX9_isSign_20 rfl ?_
    refine e_zret dX9_isSign_21 (by decide) ?_
    first | exact h1 (by omega) | exact h0 (by omega)
  · skip
    refine e_aload_n (i := 0) 9 dX9_isSign_8 rfl rfl rfl ?_
    refine e_geti (j := 6) 12 fl_9_37 dX9_isSign_9 at_883 (by decide) rfl rfl (fun r9 => ?_)
    refine e_iload_n (i := 1) 13 dX9_isSign_12 rfl rfl rfl ?_
    refine e_icmp_ne 16 20 dX9_isSign_13 (by omega) (by omega) (by decide) rfl (fun b13 => ?_) (fun b13 => ?_)
    · skip
      refine e_iconst 21 dX9_isSign_20 rfl ?_
      refine e_zret dX9_isSign_21 (by decide) ?_
      first | exact h1 (by omega) | exact h0 (by omega)
    · skip
      refine e_iconst 17 dX9_isSign_16 rfl ?_
      refine e_goto 21 dX9_isSign_17 (by decide) ?_
      refine e_zret dX9_isSign_21 (by decide) ?_
      first | exact h1 (by omega) | exact h0 (by omega)

theorem c_refuse {M Z : jM} {n : Int} {Q : Int → jM → Prop} (hM : CM M n) {s : PS} (hZ : CTk M Z n s) (hI : PI n s) {f : Int} (hf : 1 ≤ f ∧ f ≤ 5) (h : ∀ W : jM, CTk M W n (pFail f s) → CO Z W → Q 0 W) (hw : s.2.2.2.2.1 = 0) : jCt yX6_refuse cX6_refuse 2 none 1 [jR 882, jI f] Z Q := by
  refine jCt_of mt_yX6_refuse (Nat.le_of_ble_eq_true rfl) (fun X => ?_)
  have e3 := hZ.2.2.2.1.1
  have e5 := hZ.2.2.2.1.2.1
  have eT := hZ.2.2.2.1.2.2
  have hi1 := hI.1
  have hi2 := hI.2.1
  have hn0 := hM.1
  have ef : pFail f s = (s.1, s.2.1, s.2.2.1, s.2.2.2.1, if s.2.2.1 = 26 then 1 else f, s.1, s.2.2.2.2.2.2) := if_neg (by omega)
  refine e_aload_n (i := 0) 1 dX6_refuse_0 rfl rfl rfl ?_
  refine e_aload_n (i := 0) 2 dX6_refuse_1 rfl rfl rfl ?_
  refine e_getr (j := 0) 5 fl_6_12 dX6_refuse_2 at_882 rfl rfl tp_882_0 rfl ?_
  refine e_geti (j := 4) 8 fl_6_50 dX6_refuse_5 at_883 (by decide) rfl rfl (fun r5 => ?_)
  refine e_iconst 9 dX6_refuse_8 rfl ?_
  refine e_icmp_ne 12 16 dX6_refuse_9 (by omega) (by decide) (by decide) rfl (fun b9 => ?_) (fun b9 => ?_)
  · skip
    refine e_iload_n (i := 1) 17 dX6_refuse_16 rfl rfl rfl ?_
    refine e_puti (j := 4) 20 fl_6_36 dX6_refuse_17 at_882 rfl rfl rfl (by omega) rfl ?_
    refine e_aload_n (i := 0) 21 dX6_refuse_20 rfl rfl rfl ?_
    refine e_aload_n (i := 0) 22 dX6_refuse_21 rfl rfl rfl ?_
    refine e_getr (j := 0) 25 fl_6_12 dX6_refuse_22 at_882 rfl rfl tp_882_0 rfl ?_
    refine e_geti (j := 5) 28 fl_6_184 dX6_refuse_25 at_883 (by decide) rfl rfl (fun r25 => ?_)
    simp (disch := omega) only [jset_k, jset_j, jset_same, true_and, and_true] at r25 ⊢
    refine e_puti (j := 5) 31 fl_6_39 dX6_refuse_28 at_882 rfl rfl rfl (by omega) rfl ?_
    refine e_vret dX6_refuse_31 ?_
    refine h _ ⟨fun k hk => ?_, ?_, ?_, ?_, ?_, ?_⟩ ⟨fun k a b => ?_, ?_⟩
    · rw [row_k (by omega), row_k (by omega), hZ.1 k hk]
    · exact ⟨by rw [jset_k (by omega), jset_k (by omega)]; exact hZ.2.1.1, by rw [jset_k (by omega), jset_k (by omega)]; exact hZ.2.1.2⟩
    · rw [jset_k (by omega), jset_k (by omega)]
      exact hZ.2.2.1
    · rw [ef]
      refine ⟨?_, ?_, ?_⟩
      · rw [jset_k (by omega), jset_k (by omega)]
        exact e3
      · rw [jset_k (by omega), jset_k (by omega)]
        exact e5
      · rw [jset_k (by omega), jset_k (by omega), jset_k (by omega), jset_k (by omega)]
        exact eT
    · rw [jset_j (by omega), jset_same, ef]
      show f = if s.2.2.1 = 26 then 1 else f
      rw [if_neg (by omega)]
    · rw [jset_same, ef, if_neg (by show ¬ (if s.2.2.1 = 26 then 1 else f) = 0; split <;> omega), e5]
    · rw [row_k a, row_k a]
    · rw [jset_j (by omega), jset_j (by omega)]
  · skip
    refine e_iconst 13 dX6_refuse_12 rfl ?_
    refine e_goto 17 dX6_refuse_13 (by decide) ?_
    refine e_puti (j := 4) 20 fl_6_36 dX6_refuse_17 at_882 rfl rfl rfl (by decide) rfl ?_
    refine e_aload_n (i := 0) 21 dX6_refuse_20 rfl rfl rfl ?_
    refine e_aload_n (i := 0) 22 dX6_refuse_21 rfl rfl rfl ?_
    refine e_getr (j := 0) 25 fl_6_12 dX6_refuse_22 at_882 rfl rfl tp_882_0 rfl ?_
    refine e_geti (j := 5) 28 fl_6_184 dX6_refuse_25 at_883 (by decide) rfl rfl (fun r25 => ?_)
    simp (disch := omega) only [jset_k, jset_j, jset_same, true_and, and_true] at r25 ⊢
    refine e_puti (j := 5) 31 fl_6_39 dX6_refuse_28 at_882 rfl rfl rfl (by omega) rfl ?_
    refine e_vret dX6_refuse_31 ?_
    refine h _ ⟨fun k hk => ?_, ?_, ?_, ?_, ?_, ?_⟩ ⟨fun k a b => ?_, ?_⟩
    · rw [row_k (by omega), row_k (by omega), hZ.1 k hk]
    · exact ⟨by rw [jset_k (by omega), jset_k (by omega)]; exact hZ.2.1.1, by rw [jset_k (by omega), jset_k (by omega)]; exact hZ.2.1.2⟩
    · rw [jset_k (by omega), jset_k (by omega)]
      exact hZ.2.2.1
    · rw [ef]
      refine ⟨?_, ?_, ?_⟩
      · rw [jset_k (by omega), jset_k (by omega)]
        exact e3
      · rw [jset_k (by omega), jset_k (by omega)]
        exact e5
      · rw [jset_k (by omega), jset_k (by omega), jset_k (by omega), jset_k (by omega)]
        exact eT
    · rw [jset_j (by omega), jset_same, ef]
      show 1 = if s.2.2.1 = 26 then 1 else f
      rw [if_pos (by omega)]
    · rw [jset_same, ef, if_neg (by show ¬ (if s.2.2.1 = 26 then 1 else f) = 0; split <;> omega), e5]
    · rw [row_k a, row_k a]
    · rw [jset_j (by omega), jset_j (by omega)]

