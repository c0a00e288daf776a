/-! TEXTS *** the class: looks, whole -/
/-- a look's end in the class -/
def CC (Z W : jM) : Prop := (∀ c, c ≠ 890 → c ≠ 891 → W c = Z c) ∧ (W 890 1 = Z 890 1 ∧ W 891 0 = Z 891 0) ∧ (0 ≤ W 890 0 ∧ W 890 0 ≤ 8) ∧ (Z 890 0 < 8 → W 890 0 = Z 890 0 + 1 ∧ W 891 = upd1 (Z 891) (Z 890 0 + 1) (Z 890 1))
section
variable {M Z W : jM} {n b : Int} {s z : PS}
theorem CTk.cc (h : CTk M Z n s) (o : CC Z W) : CTk M W n s := by
  obtain ⟨h1, h2, h3, h4, h5, h6⟩ := h
  have e2 := o.1 882 (by omega) (by omega)
  have e3 := o.1 883 (by omega) (by omega)
  refine ⟨fun c hc => ?_, ?_, ?_, ?_, ?_, ?_⟩
  · rw [o.1 c (by omega) (by omega), h1 c hc]
  · exact ⟨by rw [e3]; exact h2.1, by rw [o.2.1.2]; exact h2.2⟩
  · rw [e3]
    exact h3
  · unfold TR
    rw [e3]
    exact h4
  · rw [e2]
    exact h5
  · rw [e2]
    exact h6
theorem CK.weak (h : CK Z s b) (o : CC Z W) (hw : z.2.2.2.2.1 ≠ 0) {b2 : Int} : CK W z b2 := ⟨o.2.2.1, by rw [o.2.1.1]; exact h.2.1, fun e => absurd e hw⟩
theorem CK.wk (h : CK Z s b) (o : ∀ k, 890 ≤ k → k ≤ 893 → W k = Z k) (hw : z.2.2.2.2.1 ≠ 0) {b2 : Int} : CK W z b2 := by
  have e := o 890 (by omega) (by omega)
  exact ⟨by rw [e]; exact h.1, by rw [e]; exact h.2.1, fun q => absurd q hw⟩
end
theorem c_lclose {Z : jM} {Q : Int → jM → Prop} (h0 : 0 ≤ Z 890 0 ∧ Z 890 0 ≤ 8) (h : ∀ W : jM, CC Z W → Q 0 W) : jCt yX2_close cX2_close 1 none 1 [jR 890] Z Q := by
  refine jCt_of mt_yX2_close (Nat.le_of_ble_eq_true rfl) (fun X => ?_)
  refine e_aload_n (i := 0) 1 dX2_close_0 rfl rfl rfl ?_
  refine e_geti (j := 0) 4 fl_2_21 dX2_close_1 at_890 (by decide) rfl rfl (fun r1 => ?_)
  refine e_bipush 6 dX2_close_4 (by decide) rfl ?_
  refine e_icmp_ge 9 32 dX2_close_6 (by omega) (by decide) (by decide) rfl (fun b6 => ?_) (fun b6 => ?_)
  · skip
    refine e_vret dX2_close_32 ?_
    exact h Z ⟨fun _ _ _ => rfl, ⟨rfl, rfl⟩, h0, fun q => by omega⟩
  · skip
    refine e_aload_n (i := 0) 10 dX2_close_9 rfl rfl rfl ?_
    refine e_dup 11 dX2_close_10 rfl rfl ?_
    refine e_geti (j := 0) 14 fl_2_21 dX2_close_11 at_890 (by decide) rfl rfl (fun r11 => ?_)
    refine e_iconst 15 dX2_close_14 rfl ?_
    refine e_iadd 16 dX2_close_15 rfl ?_
    refine e_puti (j := 0) 19 fl_2_21 dX2_close_16 at_890 rfl rfl rfl (by omega) rfl ?_
    refine e_aload_n (i := 0) 20 dX2_close_19 rfl rfl rfl ?_
    refine e_getr (j := 2) 23 fl_2_9 dX2_close_20 at_890 rfl rfl tp_890_2 rfl ?_
    refine e_aload_n (i := 0) 24 dX2_close_23 rfl rfl rfl ?_
    refine e_geti (j := 0) 27 fl_2_21 dX2_close_24 at_890 (by decide) rfl rfl (fun r24 => ?_)
    simp (disch := omega) only [jset_k, jset_j, jset_same, true_and, and_true] at r24 ⊢
    refine e_aload_n (i := 0) 28 dX2_close_27 rfl rfl rfl ?_
    refine e_geti (j := 1) 31 fl_2_25 dX2_close_28 at_890 (by decide) rfl rfl (fun r28 => ?_)
    simp (disch := omega) only [jset_k, jset_j, jset_same, true_and, and_true] at r28 ⊢
    refine e_iast 32 dX2_close_31 ar_891 (by omega) (by omega) (by omega) rfl ?_
    refine e_vret dX2_close_32 ?_
    refine h _ ⟨fun c a b => ?_, ?_, ?_, fun _ => ⟨?_, ?_⟩⟩
    · rw [row_k b, row_k a]
    · exact ⟨by rw [jset_k (by omega), jset_j (by omega)], by rw [jset_j (by omega), jset_k (by omega)]⟩
    · rw [jset_k (by omega), jset_same]
      omega
    · rw [jset_k (by omega), jset_same]
    · rw [fun_set, row_k (by omega)]

theorem c_lclear {Z : jM} {Q : Int → jM → Prop} (h : ∀ W : jM, (∀ k, k ≠ 890 → W k = Z k) → W 890 0 = 0 → W 890 1 = 0 → Q 0 W) : jCt yX2_clear cX2_clear 1 none 1 [jR 890] Z Q := by
  refine jCt_of mt_yX2_clear (Nat.le_of_ble_eq_true rfl) (fun X => ?_)
  refine e_aload_n (i := 0) 1 dX2_clear_0 rfl rfl rfl ?_
  refine e_iconst 2 dX2_clear_1 rfl ?_
  refine e_puti (j := 0) 5 fl_2_21 dX2_clear_2 at_890 rfl rfl rfl (by decide) rfl ?_
  refine e_aload_n (i := 0) 6 dX2_clear_5 rfl rfl rfl ?_
  refine e_iconst 7 dX2_clear_6 rfl ?_
  refine e_puti (j := 1) 10 fl_2_25 dX2_clear_7 at_890 rfl rfl rfl (by decide) rfl ?_
  refine e_vret dX2_clear_10 ?_
  refine h _ (fun k a => ?_) ?_ ?_
  · rw [row_k a, row_k a]
  · simp (disch := omega) only [jset_k, jset_j, jset_same, true_and, and_true]
  · simp (disch := omega) only [jset_k, jset_j, jset_same, true_and, and_true]

def qk1 (t : Int → Int) (n : Int) (s : PS) : PS := pMust t n 10 (pMust t n 9 s)
def qk2 (t : Int → Int) (n m : Int) (s : PS) : PS := ((qk1 t n s).1, (qk1 t n s).2.1, (qk1 t n s).2.2.1, (qk1 t n s).2.2.2.1, (qk1 t n s).2.2.2.2.1, (qk1 t n s).2.2.2.2.2.1, (qk1 t n s).2.2.2.2.2.2.1, (qk1 t n s).2.2.2.2.2.2.2.1, (qk1 t n s).2.2.2.2.2.2.2.2.1, upd1 (qk1 t n s).2.2.2.2.2.2.2.2.2 (66 + m) (qk1 t n s).2.2.2.2.2.2.2.1)
def qk3 (t : Int → Int) (n m : Int) (s : PS) : PS := prs t n 2010 4 (qk2 t n m s)
def qk4 (t : Int → Int) (n m : Int) (s : PS) : PS := ((qk3 t n m s).1, (qk3 t n m s).2.1, (qk3 t n m s).2.2.1, (qk3 t n m s).2.2.2.1, (qk3 t n m s).2.2.2.2.1, (qk3 t n m s).2.2.2.2.2.1, (qk3 t n m s).2.2.2.2.2.2.1, (qk3 t n m s).2.2.2.2.2.2.2.1, (qk3 t n m s).2.2.2.2.2.2.2.2.1, upd1 (qk3 t n m s).2.2.2.2.2.2.2.2.2 (74 + m) (qk3 t n m s).2.2.2.2.2.2.2.1)
def qk5 (t : Int → Int) (n m : Int) (s : PS) : PS := pMust t n 22 (qk4 t n m s)
section
variable {M Z W V : jM} {n b m : Int} {s z : PS}
theorem CK.set (h : CK Z s b) {i v : Int} (hi : 66 ≤ i) (hj : s.2.2.2.2.1 = 0 → i < 82 ∧ 0 ≤ s.2.2.2.2.2.2.2.1 ∧ ∀ j : Int, 0 ≤ j → j < s.2.2.2.2.2.2.2.2.2 65 → i ≠ 66 + j ∧ i ≠ 74 + j) : CK Z (s.1, s.2.1, s.2.2.1, s.2.2.2.1, s.2.2.2.2.1, s.2.2.2.2.2.1, s.2.2.2.2.2.2.1, s.2.2.2.2.2.2.2.1, s.2.2.2.2.2.2.2.2.1, upd1 s.2.2.2.2.2.2.2.2.2 i v) b := by
  refine ⟨h.1, h.2.1, fun hw => ?_⟩
  obtain ⟨q0, q1, q2, q3, q4, q5⟩ := h.2.2 hw
  have f : ∀ j : Int, j ≠ i → upd1 s.2.2.2.2.2.2.2.2.2 i v j = s.2.2.2.2.2.2.2.2.2 j := fun j hj => u2 hj
  have g := hj hw
  refine ⟨?_, q1, q2, ?_, fun j a d => ?_, fun j a d => ?_⟩
  · show _ = upd1 s.2.2.2.2.2.2.2.2.2 i v 65
    rw [f 65 (by omega)]
    exact q0
  · show Z 891 (upd1 s.2.2.2.2.2.2.2.2.2 i v 65) = b
    rw [f 65 (by omega)]
    exact q3
  · have d : j < upd1 s.2.2.2.2.2.2.2.2.2 i v 65 := d
    rw [f 65 (by omega)] at d
    show Z 891 j = upd1 s.2.2.2.2.2.2.2.2.2 i v (66 + j) ∧ Z 891 (j + 1) = upd1 s.2.2.2.2.2.2.2.2.2 i v (74 + j)
    have c := g.2.2 j a d
    rw [f _ (by omega), f _ (by omega)]
    exact q4 j a d
  · show Z 892 j = opC (upd1 s.2.2.2.2.2.2.2.2.2 i v (82 + 2 * j)) ∧ Z 893 j = upd1 s.2.2.2.2.2.2.2.2.2 i v (83 + 2 * j)
    rw [f _ (by omega), f _ (by omega)]
    exact q5 j a d
theorem qk1_k (hM : CM M n) (hI : PI n s) : PK n s (qk1 (M 931) n s) := by
  have h1 := pc_must (k := 9) hM hI
  exact h1.trans (pc_must (k := 10) hM h1.1)
theorem qk2_i (hM : CM M n) (hI : PI n s) (hm : 0 ≤ m ∧ m ≤ 8) : PI n (qk2 (M 931) n m s) := pi_set (qk1_k hM hI).1 (by omega)
theorem qk3_q (hM : CM M n) (hI : PI n s) (hm : 0 ≤ m ∧ m ≤ 8) : PQ n (qk2 (M 931) n m s) (qk3 (M 931) n m s) := prc_ok hM 2010 4 _ (qk2_i hM hI hm)
theorem qk4_i (hM : CM M n) (hI : PI n s) (hm : 0 ≤ m ∧ m ≤ 8) : PI n (qk4 (M 931) n m s) := pi_set (qk3_q hM hI hm).1 (by omega)
theorem qk5_k (hM : CM M n) (hI : PI n s) (hm : 0 ≤ m ∧ m ≤ 8) : PK n (qk4 (M 931) n m s) (qk5 (M 931) n m s) := pc_must hM (qk4_i hM hI hm)
theorem must_w {t : Int → Int} {k : Int} (hw : s.2.2.2.2.1 ≠ 0) : pMust t n k s = s := by
  rw [pMust, if_neg (by omega), fail_id hw]
theorem prs_w {t : Int → Int} (hw : s.2.2.2.2.1 ≠ 0) : ∀ f m : Nat, prs t n f m s = s
  | 0, _ => rfl
  | f + 1, m => by
    have h := prs_w (t := t) hw f
    rw [prs]
    split
    · first
        | rfl
        | rw [if_pos hw]
    · split
      · first
          | rfl
          | rw [if_neg (by omega)]
      · split
        · first
            | rfl
            | rw [if_neg (by omega)]
        · split
          · rw [h, h]
          · rw [h, h]
/-- with a fault, all stays but what no one asks -/
theorem qk5_w {t : Int → Int} (hw : s.2.2.2.2.1 ≠ 0) : (qk5 t n m s).1 = s.1 ∧ (qk5 t n m s).2.1 = s.2.1 ∧ (qk5 t n m s).2.2.1 = s.2.2.1 ∧ (qk5 t n m s).2.2.2.1 = s.2.2.2.1 ∧ (qk5 t n m s).2.2.2.2.1 = s.2.2.2.2.1 ∧ (qk5 t n m s).2.2.2.2.2.1 = s.2.2.2.2.2.1 := by
  have e1 : qk1 t n s = s := by
    unfold qk1
    rw [must_w hw, must_w hw]
  have e2 : (qk2 t n m s).2.2.2.2.1 ≠ 0 := by
    unfold qk2
    rw [e1]
    exact hw
  have e3 : qk3 t n m s = qk2 t n m s := prs_w e2 _ _
  have e4 : (qk4 t n m s).2.2.2.2.1 ≠ 0 := by
    unfold qk4
    rw [e3]
    exact e2
  have e5 : qk5 t n m s = qk4 t n m s := must_w e4
  rw [e5]
  unfold qk4
  rw [e3]
  unfold qk2
  rw [e1]
  exact ⟨rfl, rfl, rfl, rfl, rfl, rfl⟩
theorem CTk.tok (h : CTk M W n s) (e : s.1 = z.1 ∧ s.2.1 = z.2.1 ∧ s.2.2.1 = z.2.2.1 ∧ s.2.2.2.1 = z.2.2.2.1 ∧ s.2.2.2.2.1 = z.2.2.2.2.1 ∧ s.2.2.2.2.2.1 = z.2.2.2.2.2.1) : CTk M W n z := by
  obtain ⟨h1, h2, h3, h4, h5, h6⟩ := h
  obtain ⟨a1, a2, a3, a4, a5, a6⟩ := e
  unfold TR at h4
  rw [a1, a2, a3, a4] at h4
  rw [a5] at h5 h6
  rw [a6] at h6
  exact ⟨h1, h2, h3, h4, h5, h6⟩
end
