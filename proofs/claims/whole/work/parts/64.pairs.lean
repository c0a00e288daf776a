/-! PAIRS: lots *** the program -/
theorem inn_rng2 {W prev : Int → Int} (hW : ∀ k, 0 ≤ W k ∧ W k ≤ 999) {f : Int} : ∀ n : Nat, 0 ≤ inn W prev f n ∧ inn W prev f n ≤ 1073741824
  | 0 => by
    unfold inn
    omega
  | n + 1 => by
    have ih := inn_rng2 hW (prev := prev) (f := f) n
    have h2 := wSum_rng hW (n + 1) f
    rw [inn]
    omega
theorem Dv_rng2 {W : Int → Int} (hW : ∀ k, 0 ≤ W k ∧ W k ≤ 999) {g : Int} (l : Nat) (f : Int) : 0 ≤ Dv W g l f ∧ Dv W g l f ≤ 1073741824 := by
  rcases l with _ | l
  · unfold Dv
    split <;> omega
  · rw [Dv]
    exact inn_rng2 hW _
theorem rMoth_rng {a : Int → Int} {p v : Int} (h : rOkM a p) (hv : 0 ≤ v ∧ v ≤ 999) : 0 ≤ rMoth a p v ∧ rMoth a p v ≤ 999 := by
  obtain ⟨h1, h2, h3, h4⟩ := h
  have hh := rHun_rng (a := a) (p := p) h4 (by omega)
  rw [rMoth_hun]
  have a1 : 0 ≤ v * rHun a p := Int.mul_nonneg hv.1 hh.1
  have a2 : v * rHun a p ≤ 999 * 100 := Int.mul_le_mul hv.2 hh.2 hh.1 (by omega)
  omega
abbrev isPas (a : Int → Int) (p : Int) : Prop := a (1010 + p) = 0 ∧ a 28 ≤ a 708 - a (890 + p)
def passL (a : Int → Int) : Nat → List Int
  | 0 => []
  | n + 1 => if isPas a n then passL a n ++ [(n : Int)] else passL a n
def mlow (a : Int → Int) (p : Int) : Int := rMoth a p (a (595 + a (710 + p)))
def gP (a : Int → Int) : Int := min 10 (passL a (a 709).toNat).length
def wP (a : Int → Int) (k : Int) : Int := if 0 ≤ k ∧ k < gP a then mlow a ((passL a (a 709).toNat).getD k.toNat 0) else 0
theorem passL_mem {a : Int → Int} : ∀ (n : Nat) (p : Int), p ∈ passL a n → 0 ≤ p ∧ p < n
  | 0, _, h => absurd h List.not_mem_nil
  | n + 1, p, h => by
    unfold passL at h
    split at h
    · rcases List.mem_append.mp h with q | q
      · have := passL_mem n p q
        omega
      · have := List.mem_singleton.mp q
        omega
    · have := passL_mem n p h
      omega
theorem passL_pre {a : Int → Int} {i : Nat} : ∀ n : Nat, i ≤ n → (passL a i).length ≤ (passL a n).length ∧ ∀ k, k < (passL a i).length → (passL a n).getD k 0 = (passL a i).getD k 0
  | 0, h => by
    have e : i = 0 := by omega
    subst e
    exact ⟨Nat.le_refl _, fun _ _ => rfl⟩
  | n + 1, h => by
    by_cases e : i = n + 1
    · subst e
      exact ⟨Nat.le_refl _, fun _ _ => rfl⟩
    · have ih := passL_pre (a := a) (i := i) n (by omega)
      have u : passL a (n + 1) = if isPas a n then passL a n ++ [(n : Int)] else passL a n := rfl
      rw [u]
      split
      · rw [List.length_append]
        exact ⟨by omega, fun k hk => by rw [getD_app (by omega)]; exact ih.2 k hk⟩
      · exact ih
theorem mlow_rng {M : jM} (hC : CR M) {p : Int} (h0 : 0 ≤ p) (h1 : p < M 929 709) : 0 ≤ mlow (M 929) p ∧ mlow (M 929) p ≤ 999 := rMoth_rng (hC.1.okM h0 h1) (hC.1.low h0 h1)
theorem wP_rng {M : jM} (hC : CR M) (k : Int) : 0 ≤ wP (M 929) k ∧ wP (M 929) k ≤ 999 := by
  have hg := hC.rng
  unfold wP gP
  by_cases e : 0 ≤ k ∧ k < min 10 ((passL (M 929) (M 929 709).toNat).length : Int)
  · rw [if_pos e]
    have h := passL_mem _ _ (getD_mem (l := passL (M 929) (M 929 709).toNat) (i := k.toNat) (by omega))
    exact mlow_rng hC h.1 (by omega)
  · rw [if_neg e]
    omega
theorem gP_rng (a : Int → Int) : 0 ≤ gP a ∧ gP a ≤ 10 := by
  unfold gP
  omega
theorem c_add2 {s v : Int} {M : jM} {Q : Int → jM → Prop} (hs : -2147483648 ≤ s ∧ s ≤ 2147483647) (hv : -2147483648 ≤ v ∧ v ≤ 2147483647) (hg : 0 ≤ M 903 0) (h : M 903 0 < 10 → Q 0 (jset (jset (jset M 904 (M 903 0) s) 905 (M 903 0) v) 903 0 (M 903 0 + 1))) (h2 : 10 ≤ M 903 0 → Q 0 M) : jCt yX4_add cX4_add 3 none 1 [jR 903, jI s, jI v] M Q := by
  refine jCt_of mt_yX4_add (Nat.le_of_ble_eq_true rfl) (fun X => ?_)
  refine e_aload_n (i := 0) 1 dX4_add_0 rfl rfl rfl ?_
  refine e_geti (j := 0) 4 fl_4_55 dX4_add_1 at_903 (by decide) rfl rfl (fun r1 => ?_)
  refine e_bipush 6 dX4_add_4 (by decide) rfl ?_
  refine e_icmp_ge 9 39 dX4_add_6 (by omega) (by decide) (by decide) rfl (fun b6 => ?_) (fun b6 => ?_)
  · skip
    refine e_vret dX4_add_39 ?_
    first | exact h2 (by omega) | exact h (by omega)
  · skip
    refine e_aload_n (i := 0) 10 dX4_add_9 rfl rfl rfl ?_
    refine e_getr (j := 1) 13 fl_4_11 dX4_add_10 at_903 rfl rfl tp_903_1 rfl ?_
    refine e_aload_n (i := 0) 14 dX4_add_13 rfl rfl rfl ?_
    refine e_geti (j := 0) 17 fl_4_55 dX4_add_14 at_903 (by decide) rfl rfl (fun r14 => ?_)
    refine e_iload_n (i := 1) 18 dX4_add_17 rfl rfl rfl ?_
    refine e_iast 19 dX4_add_18 ar_904 (by omega) (by omega) (by omega) rfl ?_
    refine e_aload_n (i := 0) 20 dX4_add_19 rfl rfl rfl ?_
    refine e_getr (j := 2) 23 fl_4_15 dX4_add_20 at_903 rfl rfl tp_903_2 rfl ?_
    refine e_aload_n (i := 0) 24 dX4_add_23 rfl rfl rfl ?_
    refine e_geti (j := 0) 27 fl_4_55 dX4_add_24 at_903 (by decide) rfl rfl (fun r24 => ?_)
    simp (disch := omega) only [jset_k, jset_j, jset_same, true_and, and_true] at r24 ⊢
    refine e_iload_n (i := 2) 28 dX4_add_27 rfl rfl rfl ?_
    refine e_iast 29 dX4_add_28 ar_905 (by omega) (by omega) (by omega) rfl ?_
    refine e_aload_n (i := 0) 30 dX4_add_29 rfl rfl rfl ?_
    refine e_dup 31 dX4_add_30 rfl rfl ?_
    refine e_geti (j := 0) 34 fl_4_55 dX4_add_31 at_903 (by decide) rfl rfl (fun r31 => ?_)
    simp (disch := omega) only [jset_k, jset_j, jset_same, true_and, and_true] at r31 ⊢
    refine e_iconst 35 dX4_add_34 rfl ?_
    refine e_iadd 36 dX4_add_35 rfl ?_
    refine e_puti (j := 0) 39 fl_4_55 dX4_add_36 at_903 rfl rfl rfl (by omega) rfl ?_
    refine e_vret dX4_add_39 ?_
    first | exact h2 (by omega) | exact h (by omega)

def GP (M Y : jM) (L : List Int) : Prop := Scr M Y ∧ Y 903 0 = min 10 (L.length : Int) ∧ ∀ k : Nat, k < 10 → k < L.length → Y 905 k = mlow (M 929) (L.getD k 0)
def RP (M Y : jM) (L : List Int) : Prop := Scr M Y ∧ ∀ k : Nat, k < 10 → k < L.length → Y 937 k = mlow (M 929) (L.getD k 0)
def Bse (M Y : jM) : Prop := Scr M Y ∧ Y 903 0 = gP (M 929) ∧ ∀ k, 0 ≤ k → k < gP (M 929) → Y 905 k = wP (M 929) k
theorem Bse.set {M Y : jM} (h : Bse M Y) {q i v : Int} (hq : 913 ≤ q ∧ q < 924) : Bse M (jset Y q i v) :=
  ⟨h.1.set (by omega), by rw [jset_k (by omega)]; exact h.2.1, fun k a b => by rw [jset_k (by omega)]; exact h.2.2 k a b⟩
theorem GP.bse {M Y : jM} (h : GP M Y (passL (M 929) (M 929 709).toNat)) : Bse M Y := by
  refine ⟨h.1, h.2.1, fun k a b => ?_⟩
  have e := h.2.2 k.toNat (by unfold gP at b; omega) (by unfold gP at b; omega)
  rw [show ((k.toNat : Nat) : Int) = k by omega] at e
  unfold wP
  rw [if_pos ⟨a, b⟩]
  exact e
theorem l_gatherP {X : jX} {M : jM} {Q : Int → jM → Prop} (hC : CR M) (h : ∀ Y : jM, Bse M Y → Q (gP (M 929)) Y) : ∀ n i : Nat, (i : Int) + n = M 929 709 → ∀ (Y : jM) (ii : Int), ii = i → GP M Y (passL (M 929) i) → jE X yX4_gatherPassed cX4_gatherPassed 3 (some .int) 3 Q Y 7 [(0, jR 903), (1, jR 1), (2, jI ii)] [] := by
  intro n
  have hgM := hC.rng
  induction n with
  | zero =>
    intro i hi Y ii hii hG
    have hCY := hG.1.cr hC
    have hn := hCY.cnt
    have hg := hCY.rng
    have e9 := hG.1.row
    have e9a : Y 929 709 = M 929 709 := by rw [e9]
    have h903 := hG.2.1
    subst hii
    have e : (M 929 709).toNat = i := by omega
    rw [← e] at hG
    have hB := hG.bse
    have h903b := hB.2.1
    refine e_iload_n (i := 2) 8 dX4_gatherPassed_7 rfl rfl rfl ?_
    refine e_aload_n (i := 1) 9 dX4_gatherPassed_8 rfl rfl rfl ?_
    refine e_geti (j := 10) 12 fl_4_96 dX4_gatherPassed_9 at_1 (by decide) rfl rfl (fun r9 => ?_)
    refine e_icmp_ge 15 44 dX4_gatherPassed_12 (by omega) (by omega) (by decide) rfl (fun b12 => ?_) (fun b12 => ?_)
    · skip
      refine e_aload_n (i := 0) 45 dX4_gatherPassed_44 rfl rfl rfl ?_
      refine e_geti (j := 0) 48 fl_4_55 dX4_gatherPassed_45 at_903 (by decide) rfl rfl (fun r45 => ?_)
      rw [h903b]
      refine e_iret dX4_gatherPassed_48 ?_
      exact h Y hB
    · omega
  | succ n ih =>
    intro i hi Y ii hii hG
    have hCY := hG.1.cr hC
    have hn := hCY.cnt
    have hg := hCY.rng
    have e9 := hG.1.row
    have e9a : Y 929 709 = M 929 709 := by rw [e9]
    have h903 := hG.2.1
    subst hii
    refine e_iload_n (i := 2) 8 dX4_gatherPassed_7 rfl rfl rfl ?_
    refine e_aload_n (i := 1) 9 dX4_gatherPassed_8 rfl rfl rfl ?_
    refine e_geti (j := 10) 12 fl_4_96 dX4_gatherPassed_9 at_1 (by decide) rfl rfl (fun r9 => ?_)
    refine e_icmp_ge 15 44 dX4_gatherPassed_12 (by omega) (by omega) (by decide) rfl (fun b12 => ?_) (fun b12 => ?_)
    · omega
    · skip
      have hml := mlow_rng hCY (p := (i : Int)) (by omega) (by omega)
      change 0 ≤ rMoth (Y 929) i (Y 929 (595 + Y 929 (710 + (i : Int)))) ∧ rMoth (Y 929) i (Y 929 (595 + Y 929 (710 + (i : Int)))) ≤ 999 at hml
      refine e_aload_n (i := 1) 16 dX4_gatherPassed_15 rfl rfl rfl ?_
      refine e_iload_n (i := 2) 17 dX4_gatherPassed_16 rfl rfl rfl ?_
      refine e_callV 20 mt_yX8_isPassed mv_yX8_isPassed wd_1037 (by decide) dX4_gatherPassed_17 at_1 jc_8 rfl rfl rfl (Nat.le_of_ble_eq_true rfl) (jroom (by decide)) rfl (c_isPassed (by omega) hCY (fun w17 => ?_) (fun w17 => ?_))
      · dsimp only [jpush]
        refine e_if_eq 23 38 dX4_gatherPassed_20 (by decide) (by decide) rfl (fun h => absurd h (by decide)) (fun _ => ?_)
        refine e_aload_n (i := 0) 24 dX4_gatherPassed_23 rfl rfl rfl ?_
        refine e_iconst 25 dX4_gatherPassed_24 rfl ?_
        refine e_aload_n (i := 1) 26 dX4_gatherPassed_25 rfl rfl rfl ?_
        refine e_aload_n (i := 1) 27 dX4_gatherPassed_26 rfl rfl rfl ?_
        refine e_getr (j := 9) 30 fl_4_65 dX4_gatherPassed_27 at_1 rfl rfl tp_1_9 rfl ?_
        refine e_iload_n (i := 2) 31 dX4_gatherPassed_30 rfl rfl rfl ?_
        refine e_aald 32 dX4_gatherPassed_31 ar_18 (by decide) (by omega) (by omega) (tp_pledge (by omega) (by omega)) rfl ?_
        refine e_callV 35 mt_yX8_mothedLow mv_yX8_mothedLow wd_1038 (by decide) dX4_gatherPassed_32 at_1 jc_8 rfl rfl rfl (Nat.le_of_ble_eq_true rfl) (jroom (by decide)) rfl (c_mothedLow hCY (by omega) (by omega) ?_)
        dsimp only [jpush]
        refine e_callV 38 mt_yX4_add mv_yX4_add wd_964 (by decide) dX4_gatherPassed_35 at_903 jc_4 rfl rfl rfl (Nat.le_of_ble_eq_true rfl) (jroom (by decide)) rfl (c_add2 (by omega) (by omega) (by omega) (fun g35 => ?_) (fun v35 => ?_))
        · dsimp only [jpush]
          refine e_iinc (lsn := [(2, _), (0, _), (1, _)]) 41 dX4_gatherPassed_38 rfl (by decide) rfl rfl ?_
          refine e_goto 7 dX4_gatherPassed_41 (by decide) ?_
          refine e_ls (ls2 := [(0, _), (1, _), (2, _)]) rfl ?_
          have hon : passL (M 929) (i + 1) = passL (M 929) i ++ [(i : Int)] := by rw [passL, if_pos (by rw [← e9]; exact w17.2)]
          refine ih (i + 1) (by omega) _ _ (by omega) ?_
          rw [hon]
          first
            | (have hlt : (passL (M 929) i).length < 10 := by omega
               refine ⟨((hG.1.set (by omega)).set (by omega)).set (by omega), ?_, fun k hk hk2 => ?_⟩
               · rw [jset_same, h903, List.length_append]
                 show _ = min 10 (((passL (M 929) i).length + 1 : Nat) : Int)
                 omega
               · rw [List.length_append] at hk2
                 change k < (passL (M 929) i).length + 1 at hk2
                 simp (disch := omega) only [jset_k]
                 by_cases e : k = (passL (M 929) i).length
                 · subst e
                   rw [getD_app_len, h903, show min 10 ((passL (M 929) i).length : Int) = ((passL (M 929) i).length : Int) by omega, jset_same, e9]
                   rfl
                 · rw [getD_app (by omega), jset_j (by omega)]
                   exact hG.2.2 k hk (by omega))
            | (have hge : 10 ≤ (passL (M 929) i).length := by omega
               refine ⟨hG.1, ?_, fun k hk hk2 => ?_⟩
               · rw [h903, List.length_append]
                 show _ = min 10 (((passL (M 929) i).length + 1 : Nat) : Int)
                 omega
               · rw [getD_app (by omega)]
                 exact hG.2.2 k hk (by omega))
        · dsimp only [jpush]
          refine e_iinc (lsn := [(2, _), (0, _), (1, _)]) 41 dX4_gatherPassed_38 rfl (by decide) rfl rfl ?_
          refine e_goto 7 dX4_gatherPassed_41 (by decide) ?_
          refine e_ls (ls2 := [(0, _), (1, _), (2, _)]) rfl ?_
          have hon : passL (M 929) (i + 1) = passL (M 929) i ++ [(i : Int)] := by rw [passL, if_pos (by rw [← e9]; exact w17.2)]
          refine ih (i + 1) (by omega) _ _ (by omega) ?_
          rw [hon]
          first
            | (have hlt : (passL (M 929) i).length < 10 := by omega
               refine ⟨((hG.1.set (by omega)).set (by omega)).set (by omega), ?_, fun k hk hk2 => ?_⟩
               · rw [jset_same, h903, List.length_append]
                 show _ = min 10 (((passL (M 929) i).length + 1 : Nat) : Int)
                 omega
               · rw [List.length_append] at hk2
                 change k < (passL (M 929) i).length + 1 at hk2
                 simp (disch := omega) only [jset_k]
                 by_cases e : k = (passL (M 929) i).length
                 · subst e
                   rw [getD_app_len, h903, show min 10 ((passL (M 929) i).length : Int) = ((passL (M 929) i).length : Int) by omega, jset_same, e9]
                   rfl
                 · rw [getD_app (by omega), jset_j (by omega)]
                   exact hG.2.2 k hk (by omega))
            | (have hge : 10 ≤ (passL (M 929) i).length := by omega
               refine ⟨hG.1, ?_, fun k hk hk2 => ?_⟩
               · rw [h903, List.length_append]
                 show _ = min 10 (((passL (M 929) i).length + 1 : Nat) : Int)
                 omega
               · rw [getD_app (by omega)]
                 exact hG.2.2 k hk (by omega))
      · dsimp only [jpush]
        refine e_if_eq 23 38 dX4_gatherPassed_20 (by decide) (by decide) rfl (fun _ => ?_) (fun h => absurd h (by decide))
        refine e_iinc (lsn := [(2, _), (0, _), (1, _)]) 41 dX4_gatherPassed_38 rfl (by decide) rfl rfl ?_
        refine e_goto 7 dX4_gatherPassed_41 (by decide) ?_
        refine e_ls (ls2 := [(0, _), (1, _), (2, _)]) rfl ?_
        refine ih (i + 1) (by omega) Y _ (by omega) ?_
        rw [passL, if_neg (by rw [← e9]; exact fun q => w17 ⟨by omega, q⟩)]
        exact hG

theorem c_gatherP {M : jM} {Q : Int → jM → Prop} (hC : CR M) (h : ∀ Y : jM, Bse M Y → Q (gP (M 929)) Y) : jCt yX4_gatherPassed cX4_gatherPassed 3 (some .int) 3 [jR 903, jR 1] M Q := by
  refine jCt_of mt_yX4_gatherPassed (Nat.le_of_ble_eq_true rfl) (fun X => ?_)
  have hg := hC.rng
  refine e_aload_n (i := 0) 1 dX4_gatherPassed_0 rfl rfl rfl ?_
  refine e_iconst 2 dX4_gatherPassed_1 rfl ?_
  refine e_puti (j := 0) 5 fl_4_55 dX4_gatherPassed_2 at_903 rfl rfl rfl (by decide) rfl ?_
  refine e_iconst 6 dX4_gatherPassed_5 rfl ?_
  refine e_istore_n (i := 2) (lsn := [(2, _), (0, _), (1, _)]) 7 dX4_gatherPassed_6 rfl (by decide) rfl rfl ?_
  refine e_ls (ls2 := [(0, _), (1, _), (2, _)]) rfl ?_
  exact l_gatherP hC h (M 929 709).toNat 0 (by omega) _ _ rfl ⟨Scr.rf.set (by omega), jset_same, fun k a b => absurd b (Nat.not_lt_zero k)⟩

def D0 (g l f : Int) : Int := if l = 0 ∧ f = g then 0 else 1073741824
def I1 (M Y : jM) (lots fr : Int) : Prop := Bse M Y ∧ (∀ l f, 0 ≤ l → l < lots → 0 ≤ f → f ≤ gP (M 929) → Y (913 + l) f = D0 (gP (M 929)) l f) ∧ ∀ f, 0 ≤ f → f < fr → Y (913 + lots) f = D0 (gP (M 929)) lots f
/-- rows ahead of lots are the table's, that one up to fr *** what is behind is untouched -/
def I3 (M Y : jM) (n : Int) (lots : Nat) (fr : Int) : Prop := Bse M Y ∧ (∀ l : Nat, l < lots → ∀ f, 0 ≤ f → f ≤ gP (M 929) → Y (913 + l) f = Dv (wP (M 929)) (gP (M 929)) l f) ∧ (∀ f, 0 ≤ f → f < fr → f ≤ gP (M 929) → Y (913 + lots) f = Dv (wP (M 929)) (gP (M 929)) lots f) ∧ (∀ f, fr ≤ f → 0 ≤ f → f ≤ gP (M 929) → Y (913 + lots) f = 1073741824) ∧ ∀ l : Nat, lots < l → (l : Int) ≤ n → ∀ f, 0 ≤ f → f ≤ gP (M 929) → Y (913 + l) f = 1073741824
theorem l_ll9 {X : jX} {n : Int} {M : jM} {Q : Int → jM → Prop} (hn : 1 ≤ n ∧ n ≤ 10) {lots : Int} (hl : 0 ≤ lots ∧ lots ≤ n) (hk : ∀ Y : jM, I1 M Y (lots + 1) 0 → jE X yX4_findLeastLots cX4_findLeastLots 6 none 1 Q Y 49 [(0, jR 903), (1, jI n), (2, jI lots)] []) : ∀ (r : Nat) (ff : Int), 0 ≤ ff → ff + r = gP (M 929) + 1 → ∀ Y : jM, I1 M Y lots ff → jE X yX4_findLeastLots cX4_findLeastLots 6 none 1 Q Y 9 [(0, jR 903), (1, jI n), (2, jI lots), (3, jI ff)] [] := by
  intro r
  have gr := gP_rng (M 929)
  induction r with
  | zero =>
    intro ff h0 hf Y hI
    have eg := hI.1.2.1
    refine e_iload_n (i := 3) 10 dX4_findLeastLots_9 rfl rfl rfl ?_
    refine e_aload_n (i := 0) 11 dX4_findLeastLots_10 rfl rfl rfl ?_
    refine e_geti (j := 0) 14 fl_4_55 dX4_findLeastLots_11 at_903 (by decide) rfl rfl (fun r11 => ?_)
    refine e_icmp_gt 17 49 dX4_findLeastLots_14 (by omega) (by omega) (by decide) rfl (fun b14 => ?_) (fun b14 => ?_)
    · skip
      refine e_ls (ls2 := [(0, _), (1, _), (2, _)]) rfl ?_
      refine hk Y ⟨hI.1, fun l f a b c d => ?_, fun f a b => by omega⟩
      by_cases e : l < lots
      · exact hI.2.1 l f a e c d
      · rw [show l = lots by omega]
        exact hI.2.2 f c (by omega)
    · omega
  | succ r ih =>
    intro ff h0 hf Y hI
    have eg := hI.1.2.1
    refine e_iload_n (i := 3) 10 dX4_findLeastLots_9 rfl rfl rfl ?_
    refine e_aload_n (i := 0) 11 dX4_findLeastLots_10 rfl rfl rfl ?_
    refine e_geti (j := 0) 14 fl_4_55 dX4_findLeastLots_11 at_903 (by decide) rfl rfl (fun r11 => ?_)
    refine e_icmp_gt 17 49 dX4_findLeastLots_14 (by omega) (by omega) (by decide) rfl (fun b14 => ?_) (fun b14 => ?_)
    · omega
    · skip
      refine e_aload_n (i := 0) 18 dX4_findLeastLots_17 rfl rfl rfl ?_
      refine e_getr (j := 9) 21 fl_4_39 dX4_findLeastLots_18 at_903 rfl rfl tp_903_9 rfl ?_
      refine e_iload_n (i := 2) 22 dX4_findLeastLots_21 rfl rfl rfl ?_
      refine e_aaldi 23 dX4_findLeastLots_22 ar_912 (by omega) (by omega) (tp_lotrow (by omega) (by omega)) rfl ?_
      refine e_iload_n (i := 3) 24 dX4_findLeastLots_23 rfl rfl rfl ?_
      refine e_iload_n (i := 2) 25 dX4_findLeastLots_24 rfl rfl rfl ?_
      refine e_if_ne 28 40 dX4_findLeastLots_25 (by omega) (by decide) rfl (fun b25 => ?_) (fun b25 => ?_)
      · skip
        refine e_ldc (z := (1073741824)) 42 (ix := 141) wd_1047 (by decide) dX4_findLeastLots_40 rfl ?_
        refine e_iast 43 dX4_findLeastLots_42 (ar_lotrow (by omega) (by omega)) (by omega) (by omega) (by decide) rfl ?_
        refine e_iinc (lsn := [(3, _), (0, _), (1, _), (2, _)]) 46 dX4_findLeastLots_43 rfl (by decide) rfl rfl ?_
        refine e_goto 9 dX4_findLeastLots_46 (by decide) ?_
        refine e_ls (ls2 := [(0, _), (1, _), (2, _), (3, _)]) rfl ?_
        refine ih (ff + 1) (by omega) (by omega) _ ⟨hI.1.set (by omega), fun l f a b c d => ?_, fun f a b => ?_⟩
        · rw [jset_k (by omega)]
          exact hI.2.1 l f a b c d
        · by_cases e : f = ff
          · rw [e, jset_same]
            unfold D0
            rw [if_neg (by omega)]
          · rw [jset_j e]
            exact hI.2.2 f a (by omega)
      · skip
        refine e_iload_n (i := 3) 29 dX4_findLeastLots_28 rfl rfl rfl ?_
        refine e_aload_n (i := 0) 30 dX4_findLeastLots_29 rfl rfl rfl ?_
        refine e_geti (j := 0) 33 fl_4_55 dX4_findLeastLots_30 at_903 (by decide) rfl rfl (fun r30 => ?_)
        refine e_icmp_ne 36 40 dX4_findLeastLots_33 (by omega) (by omega) (by decide) rfl (fun b33 => ?_) (fun b33 => ?_)
        · skip
          refine e_ldc (z := (1073741824)) 42 (ix := 141) wd_1047 (by decide) dX4_findLeastLots_40 rfl ?_
          refine e_iast 43 dX4_findLeastLots_42 (ar_lotrow (by omega) (by omega)) (by omega) (by omega) (by decide) rfl ?_
          refine e_iinc (lsn := [(3, _), (0, _), (1, _), (2, _)]) 46 dX4_findLeastLots_43 rfl (by decide) rfl rfl ?_
          refine e_goto 9 dX4_findLeastLots_46 (by decide) ?_
          refine e_ls (ls2 := [(0, _), (1, _), (2, _), (3, _)]) rfl ?_
          refine ih (ff + 1) (by omega) (by omega) _ ⟨hI.1.set (by omega), fun l f a b c d => ?_, fun f a b => ?_⟩
          · rw [jset_k (by omega)]
            exact hI.2.1 l f a b c d
          · by_cases e : f = ff
            · rw [e, jset_same]
              unfold D0
              rw [if_neg (by omega)]
            · rw [jset_j e]
              exact hI.2.2 f a (by omega)
        · skip
          refine e_iconst 37 dX4_findLeastLots_36 rfl ?_
          refine e_goto 42 dX4_findLeastLots_37 (by decide) ?_
          refine e_iast 43 dX4_findLeastLots_42 (ar_lotrow (by omega) (by omega)) (by omega) (by omega) (by decide) rfl ?_
          refine e_iinc (lsn := [(3, _), (0, _), (1, _), (2, _)]) 46 dX4_findLeastLots_43 rfl (by decide) rfl rfl ?_
          refine e_goto 9 dX4_findLeastLots_46 (by decide) ?_
          refine e_ls (ls2 := [(0, _), (1, _), (2, _), (3, _)]) rfl ?_
          refine ih (ff + 1) (by omega) (by omega) _ ⟨hI.1.set (by omega), fun l f a b c d => ?_, fun f a b => ?_⟩
          · rw [jset_k (by omega)]
            exact hI.2.1 l f a b c d
          · by_cases e : f = ff
            · rw [e, jset_same]
              unfold D0
              rw [if_pos (by omega)]
            · rw [jset_j e]
              exact hI.2.2 f a (by omega)

theorem l_ll2 {X : jX} {n : Int} {M : jM} {Q : Int → jM → Prop} (hn : 1 ≤ n ∧ n ≤ 10) (hk : ∀ Y : jM, I1 M Y (n + 1) 0 → jE X yX4_findLeastLots cX4_findLeastLots 6 none 1 Q Y 55 [(0, jR 903), (1, jI n)] []) : ∀ (r : Nat) (ll : Int), 0 ≤ ll → ll + r = n + 1 → ∀ Y : jM, I1 M Y ll 0 → jE X yX4_findLeastLots cX4_findLeastLots 6 none 1 Q Y 2 [(0, jR 903), (1, jI n), (2, jI ll)] [] := by
  intro r
  have gr := gP_rng (M 929)
  induction r with
  | zero =>
    intro ll h0 hf Y hI
    have e : ll = n + 1 := by omega
    rw [e] at hI
    refine e_iload_n (i := 2) 3 dX4_findLeastLots_2 rfl rfl rfl ?_
    refine e_iload_n (i := 1) 4 dX4_findLeastLots_3 rfl rfl rfl ?_
    refine e_icmp_gt 7 55 dX4_findLeastLots_4 (by omega) (by omega) (by decide) rfl (fun b4 => ?_) (fun b4 => ?_)
    · skip
      refine e_ls (ls2 := [(0, _), (1, _)]) rfl ?_
      exact hk Y hI
    · omega
  | succ r ih =>
    intro ll h0 hf Y hI
    refine e_iload_n (i := 2) 3 dX4_findLeastLots_2 rfl rfl rfl ?_
    refine e_iload_n (i := 1) 4 dX4_findLeastLots_3 rfl rfl rfl ?_
    refine e_icmp_gt 7 55 dX4_findLeastLots_4 (by omega) (by omega) (by decide) rfl (fun b4 => ?_) (fun b4 => ?_)
    · omega
    · skip
      refine e_iconst 8 dX4_findLeastLots_7 rfl ?_
      refine e_istore_n (i := 3) (lsn := [(3, _), (0, _), (1, _), (2, _)]) 9 dX4_findLeastLots_8 rfl (by decide) rfl rfl ?_
      refine e_ls (ls2 := [(0, _), (1, _), (2, _), (3, _)]) rfl ?_
      refine l_ll9 hn (by omega) (fun Y2 hI2 => ?_) (gP (M 929) + 1).toNat 0 (by omega) (by omega) Y hI
      refine e_iinc (lsn := [(2, _), (0, _), (1, _)]) 52 dX4_findLeastLots_49 rfl (by decide) rfl rfl ?_
      refine e_goto 2 dX4_findLeastLots_52 (by decide) ?_
      refine e_ls (ls2 := [(0, _), (1, _), (2, _)]) rfl ?_
      exact ih (ll + 1) (by omega) (by omega) Y2 hI2

theorem l_ll80 {X : jX} {n : Int} {M : jM} {Q : Int → jM → Prop} (hW : ∀ k, 0 ≤ wP (M 929) k ∧ wP (M 929) k ≤ 999) {Y0 : jM} {prev : Int → Int} {lots ff : Int} (hl : 1 ≤ lots ∧ lots ≤ 10) (hf : 0 ≤ ff ∧ ff ≤ gP (M 929)) (hp : ∀ f, 0 ≤ prev f ∧ prev f ≤ 1073741824) (hb : Bse M Y0) (hprev : ∀ f, 0 ≤ f → f ≤ gP (M 929) → Y0 (913 + (lots - 1)) f = prev f) (hk : ∀ Y : jM, (∀ k j, ¬ (k = 913 + lots ∧ j = ff) → Y k j = Y0 k j) → Y (913 + lots) ff = inn (wP (M 929)) prev ff (gP (M 929) - ff).toNat → jE X yX4_findLeastLots cX4_findLeastLots 6 none 1 Q Y 144 [(0, jR 903), (1, jI n), (2, jI lots), (3, jI ff)] []) : ∀ (r c : Nat), (c : Int) + r = gP (M 929) - ff → ∀ (Y : jM) (s b : Int), b = ff + 1 + c → s = wSum (wP (M 929)) c ff → (∀ k j, ¬ (k = 913 + lots ∧ j = ff) → Y k j = Y0 k j) → Y (913 + lots) ff = inn (wP (M 929)) prev ff c → jE X yX4_findLeastLots cX4_findLeastLots 6 none 1 Q Y 80 [(0, jR 903), (1, jI n), (2, jI lots), (3, jI ff), (4, jI s), (5, jI b)] [] := by
  intro r
  have gr := gP_rng (M 929)
  induction r with
  | zero =>
    intro c hc Y s b hb2 hs hS hv
    have eg : Y 903 0 = gP (M 929) := by rw [hS _ _ (by omega)]; exact hb.2.1
    have e : (gP (M 929) - ff).toNat = c := by omega
    rw [← e] at hv
    refine e_iload 82 dX4_findLeastLots_80 rfl rfl ?_
    refine e_aload_n (i := 0) 83 dX4_findLeastLots_82 rfl rfl rfl ?_
    refine e_geti (j := 0) 86 fl_4_55 dX4_findLeastLots_83 at_903 (by decide) rfl rfl (fun r83 => ?_)
    refine e_icmp_gt 89 144 dX4_findLeastLots_86 (by omega) (by omega) (by decide) rfl (fun b86 => ?_) (fun b86 => ?_)
    · skip
      refine e_ls (ls2 := [(0, _), (1, _), (2, _), (3, _)]) rfl ?_
      exact hk Y hS hv
    · omega
  | succ r ih =>
    intro c hc Y s b hb2 hs hS hv
    have eg : Y 903 0 = gP (M 929) := by rw [hS _ _ (by omega)]; exact hb.2.1
    have hw : Y 905 (b - 1) = wP (M 929) (ff + c) := by
      rw [hS _ _ (by omega), hb.2.2 _ (by omega) (by omega), show b - 1 = ff + c by omega]
    have hws := wSum_rng hW (c + 1) ff
    have hpv : Y (913 + (lots - 1)) b = prev b := by
      rw [hS _ _ (by omega)]
      exact hprev b (by omega) (by omega)
    have hpr := hp b
    have hin := inn_rng2 hW (prev := prev) (f := ff) c
    have hs1 : s + wP (M 929) (ff + c) = wSum (wP (M 929)) (c + 1) ff := by rw [wSum, hs]
    refine e_iload 82 dX4_findLeastLots_80 rfl rfl ?_
    refine e_aload_n (i := 0) 83 dX4_findLeastLots_82 rfl rfl rfl ?_
    refine e_geti (j := 0) 86 fl_4_55 dX4_findLeastLots_83 at_903 (by decide) rfl rfl (fun r83 => ?_)
    refine e_icmp_gt 89 144 dX4_findLeastLots_86 (by omega) (by omega) (by decide) rfl (fun b86 => ?_) (fun b86 => ?_)
    · omega
    · skip
      refine e_iload 91 dX4_findLeastLots_89 rfl rfl ?_
      refine e_aload_n (i := 0) 92 dX4_findLeastLots_91 rfl rfl rfl ?_
      refine e_getr (j := 2) 95 fl_4_15 dX4_findLeastLots_92 at_903 rfl rfl tp_903_2 rfl ?_
      refine e_iload 97 dX4_findLeastLots_95 rfl rfl ?_
      refine e_iconst 98 dX4_findLeastLots_97 rfl ?_
      refine e_isub 99 dX4_findLeastLots_98 rfl ?_
      refine e_iald 100 dX4_findLeastLots_99 ar_905 (by omega) (by omega) rfl (fun r99 => ?_)
      rw [hw] at r99 ⊢
      refine e_iadd 101 dX4_findLeastLots_100 rfl ?_
      rw [hs1]
      refine e_istore (lsn := [(4, _), (0, _), (1, _), (2, _), (3, _), (5, _)]) 103 dX4_findLeastLots_101 (by decide) rfl rfl ?_
      refine e_aload_n (i := 0) 104 dX4_findLeastLots_103 rfl rfl rfl ?_
      refine e_getr (j := 9) 107 fl_4_39 dX4_findLeastLots_104 at_903 rfl rfl tp_903_9 rfl ?_
      refine e_iload_n (i := 2) 108 dX4_findLeastLots_107 rfl rfl rfl ?_
      refine e_aaldi 109 dX4_findLeastLots_108 ar_912 (by omega) (by omega) (tp_lotrow (by omega) (by omega)) rfl ?_
      refine e_iload_n (i := 3) 110 dX4_findLeastLots_109 rfl rfl rfl ?_
      refine e_aload_n (i := 0) 111 dX4_findLeastLots_110 rfl rfl rfl ?_
      refine e_getr (j := 9) 114 fl_4_39 dX4_findLeastLots_111 at_903 rfl rfl tp_903_9 rfl ?_
      refine e_iload_n (i := 2) 115 dX4_findLeastLots_114 rfl rfl rfl ?_
      refine e_aaldi 116 dX4_findLeastLots_115 ar_912 (by omega) (by omega) (tp_lotrow (by omega) (by omega)) rfl ?_
      refine e_iload_n (i := 3) 117 dX4_findLeastLots_116 rfl rfl rfl ?_
      refine e_iald 118 dX4_findLeastLots_117 (ar_lotrow (by omega) (by omega)) (by omega) (by omega) rfl (fun r117 => ?_)
      rw [hv] at r117 ⊢
      refine e_iload 120 dX4_findLeastLots_118 rfl rfl ?_
      refine e_aload_n (i := 0) 121 dX4_findLeastLots_120 rfl rfl rfl ?_
      refine e_getr (j := 9) 124 fl_4_39 dX4_findLeastLots_121 at_903 rfl rfl tp_903_9 rfl ?_
      refine e_iload_n (i := 2) 125 dX4_findLeastLots_124 rfl rfl rfl ?_
      refine e_iconst 126 dX4_findLeastLots_125 rfl ?_
      refine e_isub 127 dX4_findLeastLots_126 rfl ?_
      refine e_aaldi 128 dX4_findLeastLots_127 ar_912 (by omega) (by omega) (tp_lotrow (by omega) (by omega)) rfl ?_
      refine e_iload 130 dX4_findLeastLots_128 rfl rfl ?_
      refine e_iald 131 dX4_findLeastLots_130 (ar_lotrow (by omega) (by omega)) (by omega) (by omega) rfl (fun r130 => ?_)
      rw [hpv] at r130 ⊢
      refine e_maxI 134 wd_999 dX4_findLeastLots_131 (by omega) (by omega) (Nat.le_of_ble_eq_true rfl) (jroom (by decide)) rfl ?_
      refine e_minI 137 wd_1048 dX4_findLeastLots_134 (by omega) (by omega) (Nat.le_of_ble_eq_true rfl) (jroom (by decide)) rfl ?_
      refine e_iast 138 dX4_findLeastLots_137 (ar_lotrow (by omega) (by omega)) (by omega) (by omega) (by omega) rfl ?_
      refine e_iinc (lsn := [(5, _), (4, _), (0, _), (1, _), (2, _), (3, _)]) 141 dX4_findLeastLots_138 rfl (by decide) rfl rfl ?_
      refine e_goto 80 dX4_findLeastLots_141 (by decide) ?_
      refine e_ls (ls2 := [(0, _), (1, _), (2, _), (3, _), (4, _), (5, _)]) rfl ?_
      refine ih (c + 1) (by omega) _ _ _ (by omega) rfl (fun k j q => ?_) ?_
      · unfold jset
        rw [if_neg q]
        exact hS k j q
      · rw [jset_same, inn]
        congr 2
        rw [hb2]
        congr 1
        omega

def I3' (M Y : jM) (n : Int) (lots : Nat) (fr : Int) : Prop := Bse M Y ∧ (∀ l : Nat, l < lots → ∀ f, 0 ≤ f → f ≤ gP (M 929) → Y (913 + l) f = Dv (wP (M 929)) (gP (M 929)) l f) ∧ ((lots : Int) ≤ n → I3 M Y n lots fr)
theorem l_ll64 {X : jX} {n : Int} {M : jM} {Q : Int → jM → Prop} (hn : 1 ≤ n ∧ n ≤ 10) (hW : ∀ k, 0 ≤ wP (M 929) k ∧ wP (M 929) k ≤ 999) {lots : Nat} (hl : 1 ≤ lots ∧ (lots : Int) ≤ n) (hk : ∀ Y : jM, I3' M Y n (lots + 1) 0 → jE X yX4_findLeastLots cX4_findLeastLots 6 none 1 Q Y 150 [(0, jR 903), (1, jI n), (2, jI (lots : Int))] []) : ∀ (r : Nat) (ff : Int), 0 ≤ ff → ff + r = gP (M 929) → ∀ Y : jM, I3 M Y n lots ff → jE X yX4_findLeastLots cX4_findLeastLots 6 none 1 Q Y 64 [(0, jR 903), (1, jI n), (2, jI (lots : Int)), (3, jI ff)] [] := by
  intro r
  have gr := gP_rng (M 929)
  induction r with
  | zero =>
    intro ff h0 hf Y hI
    have eg := hI.1.2.1
    refine e_iload_n (i := 3) 65 dX4_findLeastLots_64 rfl rfl rfl ?_
    refine e_aload_n (i := 0) 66 dX4_findLeastLots_65 rfl rfl rfl ?_
    refine e_geti (j := 0) 69 fl_4_55 dX4_findLeastLots_66 at_903 (by decide) rfl rfl (fun r66 => ?_)
    refine e_icmp_ge 72 150 dX4_findLeastLots_69 (by omega) (by omega) (by decide) rfl (fun b69 => ?_) (fun b69 => ?_)
    · skip
      refine e_ls (ls2 := [(0, _), (1, _), (2, _)]) rfl ?_
      have hrows : ∀ l : Nat, l < lots + 1 → ∀ f, 0 ≤ f → f ≤ gP (M 929) → Y (913 + l) f = Dv (wP (M 929)) (gP (M 929)) l f := fun l a f b c => by
        by_cases e : l < lots
        · exact hI.2.1 l e f b c
        · have e2 : l = lots := by omega
          subst e2
          by_cases e3 : f < ff
          · exact hI.2.2.1 f b e3 c
          · rw [hI.2.2.2.1 f (by omega) b c]
            obtain ⟨q, rfl⟩ : ∃ q, l = q + 1 := ⟨l - 1, by omega⟩
            rw [Dv, show (gP (M 929) - f).toNat = 0 by omega]
            rfl
      exact hk Y ⟨hI.1, hrows, fun z => ⟨hI.1, hrows, fun f a b => by omega, fun f a b c => hI.2.2.2.2 (lots + 1) (by omega) z f b c, fun l a b f c d => hI.2.2.2.2 l (by omega) b f c d⟩⟩
    · omega
  | succ r ih =>
    intro ff h0 hf Y hI
    have eg := hI.1.2.1
    obtain ⟨q, hq⟩ : ∃ q, lots = q + 1 := ⟨lots - 1, by omega⟩
    refine e_iload_n (i := 3) 65 dX4_findLeastLots_64 rfl rfl rfl ?_
    refine e_aload_n (i := 0) 66 dX4_findLeastLots_65 rfl rfl rfl ?_
    refine e_geti (j := 0) 69 fl_4_55 dX4_findLeastLots_66 at_903 (by decide) rfl rfl (fun r66 => ?_)
    refine e_icmp_ge 72 150 dX4_findLeastLots_69 (by omega) (by omega) (by decide) rfl (fun b69 => ?_) (fun b69 => ?_)
    · omega
    · skip
      refine e_iconst 73 dX4_findLeastLots_72 rfl ?_
      refine e_istore (lsn := [(4, _), (0, _), (1, _), (2, _), (3, _)]) 75 dX4_findLeastLots_73 (by decide) rfl rfl ?_
      refine e_iload_n (i := 3) 76 dX4_findLeastLots_75 rfl rfl rfl ?_
      refine e_iconst 77 dX4_findLeastLots_76 rfl ?_
      refine e_iadd 78 dX4_findLeastLots_77 rfl ?_
      refine e_istore (lsn := [(5, _), (4, _), (0, _), (1, _), (2, _), (3, _)]) 80 dX4_findLeastLots_78 (by decide) rfl rfl ?_
      refine e_ls (ls2 := [(0, _), (1, _), (2, _), (3, _), (4, _), (5, _)]) rfl ?_
      refine l_ll80 (Y0 := Y) (prev := Dv (wP (M 929)) (gP (M 929)) q) hW (by omega) (by omega) (fun f => Dv_rng2 hW q f) hI.1 (fun f a b => ?_) (fun Y2 hS hv => ?_) (r + 1) 0 (by omega) Y _ _ (by omega) rfl (fun _ _ _ => rfl) ?_
      · rw [show 913 + ((lots : Int) - 1) = 913 + (q : Int) by omega]
        exact hI.2.1 q (by omega) f a b
      · skip
        refine e_iinc (lsn := [(3, _), (0, _), (1, _), (2, _)]) 147 dX4_findLeastLots_144 rfl (by decide) rfl rfl ?_
        refine e_goto 64 dX4_findLeastLots_147 (by decide) ?_
        refine e_ls (ls2 := [(0, _), (1, _), (2, _), (3, _)]) rfl ?_
        refine ih (ff + 1) (by omega) (by omega) Y2 ⟨?_, fun l a f b c => ?_, fun f a b c => ?_, fun f a b c => ?_, fun l a b f c d => ?_⟩
        · exact ⟨fun k j a b => by rw [hS _ _ (by omega)]; exact hI.1.1 k j a b, by rw [hS _ _ (by omega)]; exact hI.1.2.1, fun k a b => by rw [hS _ _ (by omega)]; exact hI.1.2.2 k a b⟩
        · rw [hS _ _ (by omega)]
          exact hI.2.1 l a f b c
        · by_cases e : f = ff
          · rw [e, hv, hq, Dv]
          · rw [hS _ _ (by omega)]
            exact hI.2.2.1 f a (by omega) c
        · rw [hS _ _ (by omega)]
          exact hI.2.2.2.1 f (by omega) b c
        · rw [hS _ _ (by omega)]
          exact hI.2.2.2.2 l a b f c d
      · rw [hI.2.2.2.1 ff (by omega) h0 (by omega)]
        rfl

theorem l_ll57 {X : jX} {n : Int} {M : jM} {Q : Int → jM → Prop} (hn : 1 ≤ n ∧ n ≤ 10) (hW : ∀ k, 0 ≤ wP (M 929) k ∧ wP (M 929) k ≤ 999) (h : ∀ Y : jM, Bse M Y → (∀ l : Nat, (l : Int) ≤ n → ∀ f, 0 ≤ f → f ≤ gP (M 929) → Y (913 + l) f = Dv (wP (M 929)) (gP (M 929)) l f) → Q 0 Y) : ∀ (r lots : Nat), 1 ≤ lots → (lots : Int) + r = n + 1 → ∀ (Y : jM) (ll : Int), ll = lots → I3' M Y n lots 0 → jE X yX4_findLeastLots cX4_findLeastLots 6 none 1 Q Y 57 [(0, jR 903), (1, jI n), (2, jI ll)] [] := by
  intro r
  have gr := gP_rng (M 929)
  induction r with
  | zero =>
    intro lots h1 hr Y ll hll hI
    refine e_iload_n (i := 2) 58 dX4_findLeastLots_57 rfl rfl rfl ?_
    refine e_iload_n (i := 1) 59 dX4_findLeastLots_58 rfl rfl rfl ?_
    refine e_icmp_gt 62 156 dX4_findLeastLots_59 (by omega) (by omega) (by decide) rfl (fun b59 => ?_) (fun b59 => ?_)
    · skip
      refine e_vret dX4_findLeastLots_156 ?_
      exact h Y hI.1 (fun l a f b c => hI.2.1 l (by omega) f b c)
    · omega
  | succ r ih =>
    intro lots h1 hr Y ll hll hI
    subst hll
    refine e_iload_n (i := 2) 58 dX4_findLeastLots_57 rfl rfl rfl ?_
    refine e_iload_n (i := 1) 59 dX4_findLeastLots_58 rfl rfl rfl ?_
    refine e_icmp_gt 62 156 dX4_findLeastLots_59 (by omega) (by omega) (by decide) rfl (fun b59 => ?_) (fun b59 => ?_)
    · omega
    · skip
      refine e_iconst 63 dX4_findLeastLots_62 rfl ?_
      refine e_istore_n (i := 3) (lsn := [(3, _), (0, _), (1, _), (2, _)]) 64 dX4_findLeastLots_63 rfl (by decide) rfl rfl ?_
      refine e_ls (ls2 := [(0, _), (1, _), (2, _), (3, _)]) rfl ?_
      refine l_ll64 hn hW (by omega) (fun Y2 hI2 => ?_) (gP (M 929)).toNat 0 (by omega) (by omega) Y (hI.2.2 (by omega))
      refine e_iinc (lsn := [(2, _), (0, _), (1, _)]) 153 dX4_findLeastLots_150 rfl (by decide) rfl rfl ?_
      refine e_goto 57 dX4_findLeastLots_153 (by decide) ?_
      refine e_ls (ls2 := [(0, _), (1, _), (2, _)]) rfl ?_
      exact ih (lots + 1) (by omega) (by omega) Y2 _ (by omega) hI2

theorem c_findLL {n : Int} {M : jM} {Q : Int → jM → Prop} (hn : 1 ≤ n ∧ n ≤ 10) (hC : CR M) {Y0 : jM} (hb : Bse M Y0) (h : ∀ Y : jM, Bse M Y → (∀ l : Nat, (l : Int) ≤ n → ∀ f, 0 ≤ f → f ≤ gP (M 929) → Y (913 + l) f = Dv (wP (M 929)) (gP (M 929)) l f) → Q 0 Y) : jCt yX4_findLeastLots cX4_findLeastLots 6 none 1 [jR 903, jI n] Y0 Q := by
  refine jCt_of mt_yX4_findLeastLots (Nat.le_of_ble_eq_true rfl) (fun X => ?_)
  refine e_iconst 1 dX4_findLeastLots_0 rfl ?_
  refine e_istore_n (i := 2) (lsn := [(2, _), (0, _), (1, _)]) 2 dX4_findLeastLots_1 rfl (by decide) rfl rfl ?_
  refine e_ls (ls2 := [(0, _), (1, _), (2, _)]) rfl ?_
  refine l_ll2 hn (fun Y hI => ?_) (n + 1).toNat 0 (by omega) (by omega) Y0 ⟨hb, fun l f a b => by omega, fun f a b => by omega⟩
  refine e_iconst 56 dX4_findLeastLots_55 rfl ?_
  refine e_istore_n (i := 2) (lsn := [(2, _), (0, _), (1, _)]) 57 dX4_findLeastLots_56 rfl (by decide) rfl rfl ?_
  refine e_ls (ls2 := [(0, _), (1, _), (2, _)]) rfl ?_
  have hr0 : ∀ f, 0 ≤ f → f ≤ gP (M 929) → Y (913 + 0) f = Dv (wP (M 929)) (gP (M 929)) 0 f := fun f a b => by
    rw [hI.2.1 0 f (by omega) (by omega) a b]
    unfold D0 Dv
    by_cases e : f = gP (M 929)
    · rw [if_pos ⟨rfl, e⟩, if_pos e]
    · rw [if_neg (fun q => e q.2), if_neg e]
  have hrT : ∀ l : Nat, 1 ≤ l → (l : Int) ≤ n → ∀ f, 0 ≤ f → f ≤ gP (M 929) → Y (913 + l) f = 1073741824 := fun l a b f c d => by
    rw [hI.2.1 l f (by omega) (by omega) c d]
    exact if_neg (by omega)
  have hrows : ∀ l : Nat, l < 1 → ∀ f, 0 ≤ f → f ≤ gP (M 929) → Y (913 + l) f = Dv (wP (M 929)) (gP (M 929)) l f := fun l a f b c => by
    have e : l = 0 := by omega
    subst e
    exact hr0 f b c
  exact l_ll57 hn (fun k => wP_rng hC k) h n.toNat 1 (by omega) (by omega) Y _ rfl ⟨hI.1, hrows, fun z => ⟨hI.1, hrows, fun f a b => by omega, fun f a b c => hrT 1 (by omega) (by omega) f b c, fun l a b f c d => hrT l (by omega) b f c d⟩⟩

