/-! TEXTS *** the class: looks so far -/
def CK0 (Z : jM) (s : PS) (b : Int) : Prop := Z 890 0 = s.2.2.2.2.2.2.2.2.2 65 ∧ Z 890 1 = s.2.2.2.2.2.2.2.1 ∧ Z 891 0 = 0 ∧ Z 891 (s.2.2.2.2.2.2.2.2.2 65) = b ∧ (∀ j : Int, 0 ≤ j → j < s.2.2.2.2.2.2.2.2.2 65 → Z 891 j = s.2.2.2.2.2.2.2.2.2 (66 + j) ∧ Z 891 (j + 1) = s.2.2.2.2.2.2.2.2.2 (74 + j)) ∧ ∀ i : Int, 0 ≤ i → i < s.2.2.2.2.2.2.2.1 → Z 892 i = opC (s.2.2.2.2.2.2.2.2.2 (82 + 2 * i)) ∧ Z 893 i = s.2.2.2.2.2.2.2.2.2 (83 + 2 * i)
def CK (Z : jM) (s : PS) (b : Int) : Prop := (0 ≤ Z 890 0 ∧ Z 890 0 ≤ 8) ∧ (0 ≤ Z 890 1 ∧ Z 890 1 ≤ 400) ∧ (s.2.2.2.2.1 = 0 → CK0 Z s b)
def CA (Z W : jM) (k v : Int) : Prop := (∀ c, c ≠ 890 → c ≠ 892 → c ≠ 893 → W c = Z c) ∧ W 890 0 = Z 890 0 ∧ (0 ≤ W 890 1 ∧ W 890 1 ≤ 400) ∧ (Z 890 1 < 400 → W 890 1 = Z 890 1 + 1 ∧ W 892 = upd1 (Z 892) (Z 890 1) k ∧ W 893 = upd1 (Z 893) (Z 890 1) v)
section
variable {M Z W : jM} {n b : Int} {s z : PS}
theorem CK.fr (h : CK Z s b) (o : ∀ k, 890 ≤ k → k ≤ 893 → W k = Z k) (ha : s.2.2.2.2.1 = 0 ∨ z.2.2.2.2.1 ≠ 0) (he : z.2.2.2.2.1 = 0 → z.2.2.2.2.2.2.2.2.2 = s.2.2.2.2.2.2.2.2.2 ∧ z.2.2.2.2.2.2.2.1 = s.2.2.2.2.2.2.2.1) : CK W z b := by
  obtain ⟨h1, h2, h3⟩ := h
  have e0 := o 890 (by omega) (by omega)
  refine ⟨by rw [e0]; exact h1, by rw [e0]; exact h2, fun hz => ?_⟩
  have q := h3 (ha.resolve_right (fun c => c hz))
  obtain ⟨a1, a2⟩ := he hz
  unfold CK0 at q ⊢
  rw [e0, o 891 (by omega) (by omega), o 892 (by omega) (by omega), o 893 (by omega) (by omega), a1, a2]
  exact q
theorem CK.pk (h : CK Z s b) (o : CO Z W) (k : PK n s z) : CK W z b := by
  have e := k.2.2.2
  refine h.fr (fun c a d => o.1 c (by omega) (by omega)) ?_ (fun _ => ⟨k.pa, congrArg (fun z => z.2.1) e⟩)
  by_cases c : s.2.2.2.2.1 = 0
  · exact Or.inl c
  · have := k.2.2.1 c
    rw [this]
    exact Or.inr c
theorem CTk.ca (h : CTk M Z n s) {k v : Int} (o : CA Z W k v) : CTk M W n s := by
  obtain ⟨h1, h2, h3, h4, h5, h6⟩ := h
  have e2 := o.1 882 (by omega) (by omega) (by omega)
  have e3 := o.1 883 (by omega) (by omega) (by omega)
  refine ⟨fun c hc => ?_, ?_, ?_, ?_, ?_, ?_⟩
  · rw [o.1 c (by omega) (by omega) (by omega), h1 c hc]
  · exact ⟨by rw [e3]; exact h2.1, by rw [o.1 891 (by omega) (by omega) (by omega)]; exact h2.2⟩
  · rw [e3]
    exact h3
  · unfold TR
    rw [e3]
    exact h4
  · rw [e2]
    exact h5
  · rw [e2]
    exact h6
theorem CK.emit (h : CK Z s b) (hw : s.2.2.2.2.1 = 0) (hs : s.2.2.2.2.2.2.2.1 ≤ 249) (hn : 0 ≤ s.2.2.2.2.2.2.2.1 ∧ s.2.2.2.2.2.2.2.2.2 65 ≤ 8) {k k2 v : Int} (hk : k2 = opC k) (o : CA Z W k2 v) : CK W (pEmit k v s) b := by
  obtain ⟨h1, h2, h3⟩ := h
  obtain ⟨q0, q1, q2, q3, q4, q5⟩ := h3 hw
  obtain ⟨c1, c2, c3⟩ := o.2.2.2 (by omega)
  have e1 := o.1 891 (by omega) (by omega) (by omega)
  have fa : ∀ i : Int, i < 82 + 2 * s.2.2.2.2.2.2.2.1 → (pEmit k v s).2.2.2.2.2.2.2.2.2 i = s.2.2.2.2.2.2.2.2.2 i := fun i hi => by
    unfold pEmit
    dsimp only
    rw [u2 (by omega), u2 (by omega)]
  have fk : (pEmit k v s).2.2.2.2.2.2.2.2.2 (82 + 2 * s.2.2.2.2.2.2.2.1) = k := by
    unfold pEmit
    dsimp only
    rw [u2 (by omega), u1]
  have fv : (pEmit k v s).2.2.2.2.2.2.2.2.2 (82 + 2 * s.2.2.2.2.2.2.2.1 + 1) = v := by
    unfold pEmit
    dsimp only
    rw [u1]
  have fs : (pEmit k v s).2.2.2.2.2.2.2.1 = s.2.2.2.2.2.2.2.1 + 1 := rfl
  refine ⟨by rw [o.2.1]; exact h1, o.2.2.1, fun _ => ⟨?_, ?_, ?_, ?_, fun j a d => ?_, fun i a d => ?_⟩⟩
  · rw [o.2.1, fa 65 (by omega)]
    exact q0
  · rw [c1, fs, q1]
  · rw [e1]
    exact q2
  · rw [e1, fa 65 (by omega)]
    exact q3
  · rw [fa 65 (by omega)] at d
    rw [e1, fa _ (by omega), fa _ (by omega)]
    exact q4 j a d
  · rw [fs] at d
    rw [c2, c3, q1]
    by_cases c : i = s.2.2.2.2.2.2.2.1
    · rw [c, u1, u1, fk, show 83 + 2 * s.2.2.2.2.2.2.2.1 = 82 + 2 * s.2.2.2.2.2.2.2.1 + 1 by omega, fv, hk]
      exact ⟨rfl, rfl⟩
    · rw [u2 c, u2 c, fa _ (by omega), fa _ (by omega)]
      exact q5 i a (by omega)
theorem CK.bad (h : CK Z s b) (hw : s.2.2.2.2.1 ≠ 0) {k v : Int} (o : CA Z W k v) : CK W s b := ⟨by rw [o.2.1]; exact h.1, o.2.2.1, fun e => absurd e hw⟩
theorem CK.em (h : CK Z s b) (hI : PI n s) (hn : n ≤ 400) {k k2 : Int} (hk : k2 = opC k) (o : CA Z W k2 0) : CK W (pEm k s) b := by
  unfold pEm
  have q := hI.2.2.2.2.1
  have q2 := hI.1
  have q8 := hI.2.2.2.2.2.2.2.1
  split
  · rename_i c
    exact h.emit c (by omega) (by omega) hk o
  · rename_i c
    exact h.bad c o
theorem CTk.em (h : CTk M Z n s) {k : Int} : CTk M Z n (pEm k s) := by
  unfold pEm
  split
  · exact h
  · exact h
end
theorem c_ladd {Z : jM} {Q : Int → jM → Prop} {k v : Int} (hs : 0 ≤ Z 890 1 ∧ Z 890 1 ≤ 400) (hk : -2147483648 ≤ k ∧ k ≤ 2147483647) (hv : -2147483648 ≤ v ∧ v ≤ 2147483647) (h : ∀ W : jM, CA Z W k v → Q 0 W) : jCt yX2_add cX2_add 3 none 1 [jR 890, jI k, jI v] Z Q := by
  refine jCt_of mt_yX2_add (Nat.le_of_ble_eq_true rfl) (fun X => ?_)
  refine e_aload_n (i := 0) 1 dX2_add_0 rfl rfl rfl ?_
  refine e_geti (j := 1) 4 fl_2_25 dX2_add_1 at_890 (by decide) rfl rfl (fun r1 => ?_)
  refine e_sipush 7 dX2_add_4 (by decide) rfl ?_
  refine e_icmp_ge 10 40 dX2_add_7 (by omega) (by decide) (by decide) rfl (fun b7 => ?_) (fun b7 => ?_)
  · skip
    refine e_vret dX2_add_40 ?_
    exact h Z ⟨fun _ _ _ _ => rfl, rfl, hs, fun q => by omega⟩
  · skip
    refine e_aload_n (i := 0) 11 dX2_add_10 rfl rfl rfl ?_
    refine e_getr (j := 3) 14 fl_2_15 dX2_add_11 at_890 rfl rfl tp_890_3 rfl ?_
    refine e_aload_n (i := 0) 15 dX2_add_14 rfl rfl rfl ?_
    refine e_geti (j := 1) 18 fl_2_25 dX2_add_15 at_890 (by decide) rfl rfl (fun r15 => ?_)
    refine e_iload_n (i := 1) 19 dX2_add_18 rfl rfl rfl ?_
    refine e_iast 20 dX2_add_19 ar_892 (by omega) (by omega) (by omega) rfl ?_
    refine e_aload_n (i := 0) 21 dX2_add_20 rfl rfl rfl ?_
    refine e_getr (j := 4) 24 fl_2_18 dX2_add_21 at_890 rfl rfl tp_890_4 rfl ?_
    refine e_aload_n (i := 0) 25 dX2_add_24 rfl rfl rfl ?_
    refine e_geti (j := 1) 28 fl_2_25 dX2_add_25 at_890 (by decide) rfl rfl (fun r25 => ?_)
    simp (disch := omega) only [jset_k, jset_j, jset_same, true_and, and_true] at r25 ⊢
    refine e_iload_n (i := 2) 29 dX2_add_28 rfl rfl rfl ?_
    refine e_iast 30 dX2_add_29 ar_893 (by omega) (by omega) (by omega) rfl ?_
    refine e_aload_n (i := 0) 31 dX2_add_30 rfl rfl rfl ?_
    refine e_dup 32 dX2_add_31 rfl rfl ?_
    refine e_geti (j := 1) 35 fl_2_25 dX2_add_32 at_890 (by decide) rfl rfl (fun r32 => ?_)
    simp (disch := omega) only [jset_k, jset_j, jset_same, true_and, and_true] at r32 ⊢
    refine e_iconst 36 dX2_add_35 rfl ?_
    refine e_iadd 37 dX2_add_36 rfl ?_
    refine e_puti (j := 1) 40 fl_2_25 dX2_add_37 at_890 rfl rfl rfl (by omega) rfl ?_
    refine e_vret dX2_add_40 ?_
    refine h _ ⟨fun c a b d => ?_, ?_, ?_, fun _ => ⟨?_, ?_, ?_⟩⟩
    · rw [row_k a, row_k d, row_k b]
    · rw [jset_j (by omega), jset_k (by omega), jset_k (by omega)]
    · rw [jset_same]
      omega
    · rw [jset_same]
    · rw [row_k (by omega), row_k (by omega), fun_set]
    · rw [row_k (by omega), fun_set, row_k (by omega)]

