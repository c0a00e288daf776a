/-! TEXTS *** the class: the next token -/
abbrev TS : Type := Int × Int × Int × Int
def putT (Z : jM) (s : TS) : jM := fun k j => if k = 883 then (if j = 5 then s.1 else if j = 3 then s.2.1 else if j = 4 then s.2.2.1 else if j = 6 then s.2.2.2 else Z k j) else Z k j
section
variable {Z : jM} {s : TS} {x i k j : Int}
theorem pt_r5 : putT Z s 883 5 = s.1 := rfl
theorem pt_w5 : jset (putT Z s) 883 5 x = putT Z (x, s.2) := by
  funext k2 j2
  unfold jset putT
  by_cases h : k2 = 883
  · by_cases h2 : j2 = 5
    · simp [h, h2]
    · simp [h, h2]
  · simp [h]
theorem pt_r3 : putT Z s 883 3 = s.2.1 := rfl
theorem pt_w3 : jset (putT Z s) 883 3 x = putT Z (s.1, x, s.2.2) := by
  funext k2 j2
  unfold jset putT
  by_cases h : k2 = 883
  · by_cases h2 : j2 = 3
    · simp [h, h2]
    · simp [h, h2]
  · simp [h]
theorem pt_r4 : putT Z s 883 4 = s.2.2.1 := rfl
theorem pt_w4 : jset (putT Z s) 883 4 x = putT Z (s.1, s.2.1, x, s.2.2.2) := by
  funext k2 j2
  unfold jset putT
  by_cases h : k2 = 883
  · by_cases h2 : j2 = 4
    · simp [h, h2]
    · simp [h, h2]
  · simp [h]
theorem pt_r6 : putT Z s 883 6 = s.2.2.2 := rfl
theorem pt_w6 : jset (putT Z s) 883 6 x = putT Z (s.1, s.2.1, s.2.2.1, x) := by
  funext k2 j2
  unfold jset putT
  by_cases h : k2 = 883
  · by_cases h2 : j2 = 6
    · simp [h, h2]
    · simp [h, h2]
  · simp [h]
theorem pt_r2 : putT Z s 883 2 = Z 883 2 := rfl
theorem pt_r1 : putT Z s 883 1 = Z 883 1 := rfl
theorem pt_rb : putT Z s 884 = Z 884 := rfl
theorem pt_o (h : k ≠ 883) : putT Z s k = Z k := by
  funext j2
  unfold putT
  rw [if_neg h]
theorem pt_self : putT Z (Z 883 5, Z 883 3, Z 883 4, Z 883 6) = Z := by
  funext k j
  unfold putT
  by_cases h : k = 883
  · rw [if_pos h, h]
    dsimp only
    by_cases j5 : j = 5
    · rw [if_pos j5, j5]
    rw [if_neg j5]
    by_cases j3 : j = 3
    · rw [if_pos j3, j3]
    rw [if_neg j3]
    by_cases j4 : j = 4
    · rw [if_pos j4, j4]
    rw [if_neg j4]
    by_cases j6 : j = 6
    · rw [if_pos j6, j6]
    rw [if_neg j6]
  · rw [if_neg h]
end
theorem w8_c {x : Int} (h : 0 ≤ x ∧ x ≤ 255) : (x ≤ 127 ∧ w8 x = x) ∨ (128 ≤ x ∧ w8 x = x - 256) := by
  unfold w8
  omega
/-- the class's bytes and the reference's -/
def CB (Z : jM) (t : Int → Int) (n : Int) : Prop := Z 883 2 = n ∧ (0 ≤ n ∧ n ≤ 400) ∧ ∀ i : Int, 0 ≤ i → i < n → (0 ≤ t i ∧ t i ≤ 255) ∧ Z 884 i = w8 (t i)
def cSo (t : Int → Int) (n q : Int) : Int := if n ≤ q then 0 else if 97 ≤ t q ∧ t q ≤ 122 then 2 else if 48 ≤ t q ∧ t q ≤ 57 then (if tBe t n q - q ≤ 3 then 3 else 1) else if t q = 59 ∨ t q = 40 ∨ t q = 41 then 4 else 1
def cVa (t : Int → Int) (n q : Int) : Int := if n ≤ q then 0 else if 97 ≤ t q ∧ t q ≤ 122 then 0 else if 48 ≤ t q ∧ t q ≤ 57 then (if tBe t n q - q ≤ 3 then tNum t q (tBe t n q - q) else 0) else w8 (t q)
def cStep (t : Int → Int) (n : Int) (s : TS) : TS := (tPl t n s.2.1, tBe t n (tPl t n s.2.1), cSo t n (tPl t n s.2.1), cVa t n (tPl t n s.2.1))
theorem cs_b {X : jX} {Z : jM} {t : Int → Int} {n : Int} {Q : Int → jM → Prop} (hT : CB Z t n) {y : Int × Int × Int} : ∀ (f : Nat) (q : Int), 0 ≤ q → q + f = n → jE X yX9_step cX9_step 1 none 1 Q (putT Z (tBl t f q, y)) 60 [(0, jR 883)] [] → jE X yX9_step cX9_step 1 none 1 Q (putT Z (q, y)) 8 [(0, jR 883)] [] := by
  intro f
  induction f with
  | zero =>
    intro q q0 hq h
    rw [tBl] at h
    have hn8 := hT.1
    have hn := hT.2.1
    refine e_aload_n (i := 0) 9 dX9_step_8 rfl rfl rfl ?_
    refine e_geti (j := 5) 12 fl_9_34 dX9_step_9 at_883 (by decide) rfl rfl (fun r9 => ?_)
    simp (disch := omega) only [pt_r5, pt_w5, pt_r3, pt_w3, pt_r4, pt_w4, pt_r6, pt_w6, pt_r2, pt_r1, pt_rb, hn8] at r9 ⊢
    refine e_aload_n (i := 0) 13 dX9_step_12 rfl rfl rfl ?_
    refine e_geti (j := 2) 16 fl_9_25 dX9_step_13 at_883 (by decide) rfl rfl (fun r13 => ?_)
    simp (disch := omega) only [pt_r5, pt_w5, pt_r3, pt_w3, pt_r4, pt_w4, pt_r6, pt_w6, pt_r2, pt_r1, pt_rb, hn8] at r13 ⊢
    refine e_icmp_ge 19 60 dX9_step_16 (by omega) (by omega) (by decide) rfl (fun b16 => ?_) (fun b16 => ?_)
    · first
       | (exfalso; omega)
       | (skip
          exact h)
    · first
       | (exfalso; omega)
       | (skip
          refine e_aload_n (i := 0) 20 dX9_step_19 rfl rfl rfl ?_
          refine e_getr (j := 0) 23 fl_9_9 dX9_step_20 at_883 rfl rfl tp_883_0 rfl ?_
          refine e_aload_n (i := 0) 24 dX9_step_23 rfl rfl rfl ?_
          refine e_geti (j := 5) 27 fl_9_34 dX9_step_24 at_883 (by decide) rfl rfl (fun r24 => ?_)
          simp (disch := omega) only [pt_r5, pt_w5, pt_r3, pt_w3, pt_r4, pt_w4, pt_r6, pt_w6, pt_r2, pt_r1, pt_rb, hn8] at r24 ⊢
          refine e_bald 28 dX9_step_27 ar_884 (by omega) (by omega) rfl (fun r27 => ?_)
          simp (disch := omega) only [pt_r5, pt_w5, pt_r3, pt_w3, pt_r4, pt_w4, pt_r6, pt_w6, pt_r2, pt_r1, pt_rb, hn8] at r27 ⊢
          refine e_bipush 30 dX9_step_28 (by decide) rfl ?_
          refine e_icmp_eq 33 47 dX9_step_30 (by omega) (by decide) (by decide) rfl (fun b30 => ?_) (fun b30 => ?_)
          · first
             | (exfalso; omega)
             | (skip
                refine e_aload_n (i := 0) 48 dX9_step_47 rfl rfl rfl ?_
                refine e_dup 49 dX9_step_48 rfl rfl ?_
                refine e_geti (j := 5) 52 fl_9_34 dX9_step_49 at_883 (by decide) rfl rfl (fun r49 => ?_)
                simp (disch := omega) only [pt_r5, pt_w5, pt_r3, pt_w3, pt_r4, pt_w4, pt_r6, pt_w6, pt_r2, pt_r1, pt_rb, hn8] at r49 ⊢
                refine e_iconst 53 dX9_step_52 rfl ?_
                refine e_iadd 54 dX9_step_53 rfl ?_
                refine e_puti (j := 5) 57 fl_9_34 dX9_step_54 at_883 rfl rfl rfl (by omega) rfl ?_
                refine e_goto 8 dX9_step_57 (by decide) ?_
                omega)
          · first
             | (exfalso; omega)
             | (skip
                refine e_aload_n (i := 0) 34 dX9_step_33 rfl rfl rfl ?_
                refine e_getr (j := 0) 37 fl_9_9 dX9_step_34 at_883 rfl rfl tp_883_0 rfl ?_
                refine e_aload_n (i := 0) 38 dX9_step_37 rfl rfl rfl ?_
                refine e_geti (j := 5) 41 fl_9_34 dX9_step_38 at_883 (by decide) rfl rfl (fun r38 => ?_)
                simp (disch := omega) only [pt_r5, pt_w5, pt_r3, pt_w3, pt_r4, pt_w4, pt_r6, pt_w6, pt_r2, pt_r1, pt_rb, hn8] at r38 ⊢
                refine e_bald 42 dX9_step_41 ar_884 (by omega) (by omega) rfl (fun r41 => ?_)
                simp (disch := omega) only [pt_r5, pt_w5, pt_r3, pt_w3, pt_r4, pt_w4, pt_r6, pt_w6, pt_r2, pt_r1, pt_rb, hn8] at r41 ⊢
                refine e_bipush 44 dX9_step_42 (by decide) rfl ?_
                refine e_icmp_ne 47 60 dX9_step_44 (by omega) (by decide) (by decide) rfl (fun b44 => ?_) (fun b44 => ?_)
                · first
                   | (exfalso; omega)
                   | (skip
                      exact h)
                · first
                   | (exfalso; omega)
                   | (skip
                      refine e_aload_n (i := 0) 48 dX9_step_47 rfl rfl rfl ?_
                      refine e_dup 49 dX9_step_48 rfl rfl ?_
                      refine e_geti (j := 5) 52 fl_9_34 dX9_step_49 at_883 (by decide) rfl rfl (fun r49 => ?_)
                      simp (disch := omega) only [pt_r5, pt_w5, pt_r3, pt_w3, pt_r4, pt_w4, pt_r6, pt_w6, pt_r2, pt_r1, pt_rb, hn8] at r49 ⊢
                      refine e_iconst 53 dX9_step_52 rfl ?_
                      refine e_iadd 54 dX9_step_53 rfl ?_
                      refine e_puti (j := 5) 57 fl_9_34 dX9_step_54 at_883 rfl rfl rfl (by omega) rfl ?_
                      refine e_goto 8 dX9_step_57 (by decide) ?_
                      omega)))
  | succ f ih =>
    intro q q0 hq h
    rw [tBl] at h
    have hby := hT.2.2 q (by omega) (by omega)
    have hb8 := w8_c hby.1
    have hb9 := hby.2
    have hn8 := hT.1
    have hn := hT.2.1
    refine e_aload_n (i := 0) 9 dX9_step_8 rfl rfl rfl ?_
    refine e_geti (j := 5) 12 fl_9_34 dX9_step_9 at_883 (by decide) rfl rfl (fun r9 => ?_)
    simp (disch := omega) only [pt_r5, pt_w5, pt_r3, pt_w3, pt_r4, pt_w4, pt_r6, pt_w6, pt_r2, pt_r1, pt_rb, hn8] at r9 ⊢
    refine e_aload_n (i := 0) 13 dX9_step_12 rfl rfl rfl ?_
    refine e_geti (j := 2) 16 fl_9_25 dX9_step_13 at_883 (by decide) rfl rfl (fun r13 => ?_)
    simp (disch := omega) only [pt_r5, pt_w5, pt_r3, pt_w3, pt_r4, pt_w4, pt_r6, pt_w6, pt_r2, pt_r1, pt_rb, hn8] at r13 ⊢
    refine e_icmp_ge 19 60 dX9_step_16 (by omega) (by omega) (by decide) rfl (fun b16 => ?_) (fun b16 => ?_)
    · first
       | (exfalso; omega)
       | (skip
          rw [if_neg (by omega)] at h
          exact h)
    · first
       | (exfalso; omega)
       | (skip
          refine e_aload_n (i := 0) 20 dX9_step_19 rfl rfl rfl ?_
          refine e_getr (j := 0) 23 fl_9_9 dX9_step_20 at_883 rfl rfl tp_883_0 rfl ?_
          refine e_aload_n (i := 0) 24 dX9_step_23 rfl rfl rfl ?_
          refine e_geti (j := 5) 27 fl_9_34 dX9_step_24 at_883 (by decide) rfl rfl (fun r24 => ?_)
          simp (disch := omega) only [pt_r5, pt_w5, pt_r3, pt_w3, pt_r4, pt_w4, pt_r6, pt_w6, pt_r2, pt_r1, pt_rb, hn8] at r24 ⊢
          refine e_bald 28 dX9_step_27 ar_884 (by omega) (by omega) rfl (fun r27 => ?_)
          simp (disch := omega) only [pt_r5, pt_w5, pt_r3, pt_w3, pt_r4, pt_w4, pt_r6, pt_w6, pt_r2, pt_r1, pt_rb, hn8] at r27 ⊢
          refine e_bipush 30 dX9_step_28 (by decide) rfl ?_
          refine e_icmp_eq 33 47 dX9_step_30 (by omega) (by decide) (by decide) rfl (fun b30 => ?_) (fun b30 => ?_)
          · first
             | (exfalso; omega)
             | (skip
                refine e_aload_n (i := 0) 48 dX9_step_47 rfl rfl rfl ?_
                refine e_dup 49 dX9_step_48 rfl rfl ?_
                refine e_geti (j := 5) 52 fl_9_34 dX9_step_49 at_883 (by decide) rfl rfl (fun r49 => ?_)
                simp (disch := omega) only [pt_r5, pt_w5, pt_r3, pt_w3, pt_r4, pt_w4, pt_r6, pt_w6, pt_r2, pt_r1, pt_rb, hn8] at r49 ⊢
                refine e_iconst 53 dX9_step_52 rfl ?_
                refine e_iadd 54 dX9_step_53 rfl ?_
                refine e_puti (j := 5) 57 fl_9_34 dX9_step_54 at_883 rfl rfl rfl (by omega) rfl ?_
                refine e_goto 8 dX9_step_57 (by decide) ?_
                rw [if_pos (by omega)] at h
                simp (disch := omega) only [pt_r5, pt_w5, pt_r3, pt_w3, pt_r4, pt_w4, pt_r6, pt_w6, pt_r2, pt_r1, pt_rb, hn8]
                exact ih (q + 1) (by omega) (by omega) h)
          · first
             | (exfalso; omega)
             | (skip
                refine e_aload_n (i := 0) 34 dX9_step_33 rfl rfl rfl ?_
                refine e_getr (j := 0) 37 fl_9_9 dX9_step_34 at_883 rfl rfl tp_883_0 rfl ?_
                refine e_aload_n (i := 0) 38 dX9_step_37 rfl rfl rfl ?_
                refine e_geti (j := 5) 41 fl_9_34 dX9_step_38 at_883 (by decide) rfl rfl (fun r38 => ?_)
                simp (disch := omega) only [pt_r5, pt_w5, pt_r3, pt_w3, pt_r4, pt_w4, pt_r6, pt_w6, pt_r2, pt_r1, pt_rb, hn8] at r38 ⊢
                refine e_bald 42 dX9_step_41 ar_884 (by omega) (by omega) rfl (fun r41 => ?_)
                simp (disch := omega) only [pt_r5, pt_w5, pt_r3, pt_w3, pt_r4, pt_w4, pt_r6, pt_w6, pt_r2, pt_r1, pt_rb, hn8] at r41 ⊢
                refine e_bipush 44 dX9_step_42 (by decide) rfl ?_
                refine e_icmp_ne 47 60 dX9_step_44 (by omega) (by decide) (by decide) rfl (fun b44 => ?_) (fun b44 => ?_)
                · first
                   | (exfalso; omega)
                   | (skip
                      rw [if_neg (by omega)] at h
                      exact h)
                · first
                   | (exfalso; omega)
                   | (skip
                      refine e_aload_n (i := 0) 48 dX9_step_47 rfl rfl rfl ?_
                      refine e_dup 49 dX9_step_48 rfl rfl ?_
                      refine e_geti (j := 5) 52 fl_9_34 dX9_step_49 at_883 (by decide) rfl rfl (fun r49 => ?_)
                      simp (disch := omega) only [pt_r5, pt_w5, pt_r3, pt_w3, pt_r4, pt_w4, pt_r6, pt_w6, pt_r2, pt_r1, pt_rb, hn8] at r49 ⊢
                      refine e_iconst 53 dX9_step_52 rfl ?_
                      refine e_iadd 54 dX9_step_53 rfl ?_
                      refine e_puti (j := 5) 57 fl_9_34 dX9_step_54 at_883 rfl rfl rfl (by omega) rfl ?_
                      refine e_goto 8 dX9_step_57 (by decide) ?_
                      rw [if_pos (by omega)] at h
                      simp (disch := omega) only [pt_r5, pt_w5, pt_r3, pt_w3, pt_r4, pt_w4, pt_r6, pt_w6, pt_r2, pt_r1, pt_rb, hn8]
                      exact ih (q + 1) (by omega) (by omega) h)))

theorem cs_s {X : jX} {Z : jM} {t : Int → Int} {n : Int} {Q : Int → jM → Prop} (hT : CB Z t n) {q : Int} {y : Int × Int} : ∀ (f : Nat) (x : Int), 0 ≤ x → x + f = n → jE X yX9_step cX9_step 1 none 1 Q (putT Z (q, tSm t f x, y)) 125 [(0, jR 883)] [] → jE X yX9_step cX9_step 1 none 1 Q (putT Z (q, x, y)) 73 [(0, jR 883)] [] := by
  intro f
  induction f with
  | zero =>
    intro x x0 hx h
    rw [tSm] at h
    have hn8 := hT.1
    have hn := hT.2.1
    refine e_aload_n (i := 0) 74 dX9_step_73 rfl rfl rfl ?_
    refine e_geti (j := 3) 77 fl_9_28 dX9_step_74 at_883 (by decide) rfl rfl (fun r74 => ?_)
    simp (disch := omega) only [pt_r5, pt_w5, pt_r3, pt_w3, pt_r4, pt_w4, pt_r6, pt_w6, pt_r2, pt_r1, pt_rb, hn8] at r74 ⊢
    refine e_aload_n (i := 0) 78 dX9_step_77 rfl rfl rfl ?_
    refine e_geti (j := 2) 81 fl_9_25 dX9_step_78 at_883 (by decide) rfl rfl (fun r78 => ?_)
    simp (disch := omega) only [pt_r5, pt_w5, pt_r3, pt_w3, pt_r4, pt_w4, pt_r6, pt_w6, pt_r2, pt_r1, pt_rb, hn8] at r78 ⊢
    refine e_icmp_ge 84 125 dX9_step_81 (by omega) (by omega) (by decide) rfl (fun b81 => ?_) (fun b81 => ?_)
    · first
       | (exfalso; omega)
       | (skip
          exact h)
    · first
       | (exfalso; omega)
       | (skip
          refine e_bipush 86 dX9_step_84 (by decide) rfl ?_
          refine e_aload_n (i := 0) 87 dX9_step_86 rfl rfl rfl ?_
          refine e_getr (j := 0) 90 fl_9_9 dX9_step_87 at_883 rfl rfl tp_883_0 rfl ?_
          refine e_aload_n (i := 0) 91 dX9_step_90 rfl rfl rfl ?_
          refine e_geti (j := 3) 94 fl_9_28 dX9_step_91 at_883 (by decide) rfl rfl (fun r91 => ?_)
          simp (disch := omega) only [pt_r5, pt_w5, pt_r3, pt_w3, pt_r4, pt_w4, pt_r6, pt_w6, pt_r2, pt_r1, pt_rb, hn8] at r91 ⊢
          refine e_bald 95 dX9_step_94 ar_884 (by omega) (by omega) rfl (fun r94 => ?_)
          simp (disch := omega) only [pt_r5, pt_w5, pt_r3, pt_w3, pt_r4, pt_w4, pt_r6, pt_w6, pt_r2, pt_r1, pt_rb, hn8] at r94 ⊢
          refine e_icmp_gt 98 125 dX9_step_95 (by decide) (by omega) (by decide) rfl (fun b95 => ?_) (fun b95 => ?_)
          · first
             | (exfalso; omega)
             | (skip
                exact h)
          · first
             | (exfalso; omega)
             | (skip
                refine e_aload_n (i := 0) 99 dX9_step_98 rfl rfl rfl ?_
                refine e_getr (j := 0) 102 fl_9_9 dX9_step_99 at_883 rfl rfl tp_883_0 rfl ?_
                refine e_aload_n (i := 0) 103 dX9_step_102 rfl rfl rfl ?_
                refine e_geti (j := 3) 106 fl_9_28 dX9_step_103 at_883 (by decide) rfl rfl (fun r103 => ?_)
                simp (disch := omega) only [pt_r5, pt_w5, pt_r3, pt_w3, pt_r4, pt_w4, pt_r6, pt_w6, pt_r2, pt_r1, pt_rb, hn8] at r103 ⊢
                refine e_bald 107 dX9_step_106 ar_884 (by omega) (by omega) rfl (fun r106 => ?_)
                simp (disch := omega) only [pt_r5, pt_w5, pt_r3, pt_w3, pt_r4, pt_w4, pt_r6, pt_w6, pt_r2, pt_r1, pt_rb, hn8] at r106 ⊢
                refine e_bipush 109 dX9_step_107 (by decide) rfl ?_
                refine e_icmp_gt 112 125 dX9_step_109 (by omega) (by decide) (by decide) rfl (fun b109 => ?_) (fun b109 => ?_)
                · first
                   | (exfalso; omega)
                   | (skip
                      exact h)
                · first
                   | (exfalso; omega)
                   | (skip
                      refine e_aload_n (i := 0) 113 dX9_step_112 rfl rfl rfl ?_
                      refine e_dup 114 dX9_step_113 rfl rfl ?_
                      refine e_geti (j := 3) 117 fl_9_28 dX9_step_114 at_883 (by decide) rfl rfl (fun r114 => ?_)
                      simp (disch := omega) only [pt_r5, pt_w5, pt_r3, pt_w3, pt_r4, pt_w4, pt_r6, pt_w6, pt_r2, pt_r1, pt_rb, hn8] at r114 ⊢
                      refine e_iconst 118 dX9_step_117 rfl ?_
                      refine e_iadd 119 dX9_step_118 rfl ?_
                      refine e_puti (j := 3) 122 fl_9_28 dX9_step_119 at_883 rfl rfl rfl (by omega) rfl ?_
                      refine e_goto 73 dX9_step_122 (by decide) ?_
                      omega)))
  | succ f ih =>
    intro x x0 hx h
    rw [tSm] at h
    have hby := hT.2.2 x (by omega) (by omega)
    have hb8 := w8_c hby.1
    have hb9 := hby.2
    have hn8 := hT.1
    have hn := hT.2.1
    refine e_aload_n (i := 0) 74 dX9_step_73 rfl rfl rfl ?_
    refine e_geti (j := 3) 77 fl_9_28 dX9_step_74 at_883 (by decide) rfl rfl (fun r74 => ?_)
    simp (disch := omega) only [pt_r5, pt_w5, pt_r3, pt_w3, pt_r4, pt_w4, pt_r6, pt_w6, pt_r2, pt_r1, pt_rb, hn8] at r74 ⊢
    refine e_aload_n (i := 0) 78 dX9_step_77 rfl rfl rfl ?_
    refine e_geti (j := 2) 81 fl_9_25 dX9_step_78 at_883 (by decide) rfl rfl (fun r78 => ?_)
    simp (disch := omega) only [pt_r5, pt_w5, pt_r3, pt_w3, pt_r4, pt_w4, pt_r6, pt_w6, pt_r2, pt_r1, pt_rb, hn8] at r78 ⊢
    refine e_icmp_ge 84 125 dX9_step_81 (by omega) (by omega) (by decide) rfl (fun b81 => ?_) (fun b81 => ?_)
    · first
       | (exfalso; omega)
       | (skip
          rw [if_neg (by omega)] at h
          exact h)
    · first
       | (exfalso; omega)
       | (skip
          refine e_bipush 86 dX9_step_84 (by decide) rfl ?_
          refine e_aload_n (i := 0) 87 dX9_step_86 rfl rfl rfl ?_
          refine e_getr (j := 0) 90 fl_9_9 dX9_step_87 at_883 rfl rfl tp_883_0 rfl ?_
          refine e_aload_n (i := 0) 91 dX9_step_90 rfl rfl rfl ?_
          refine e_geti (j := 3) 94 fl_9_28 dX9_step_91 at_883 (by decide) rfl rfl (fun r91 => ?_)
          simp (disch := omega) only [pt_r5, pt_w5, pt_r3, pt_w3, pt_r4, pt_w4, pt_r6, pt_w6, pt_r2, pt_r1, pt_rb, hn8] at r91 ⊢
          refine e_bald 95 dX9_step_94 ar_884 (by omega) (by omega) rfl (fun r94 => ?_)
          simp (disch := omega) only [pt_r5, pt_w5, pt_r3, pt_w3, pt_r4, pt_w4, pt_r6, pt_w6, pt_r2, pt_r1, pt_rb, hn8] at r94 ⊢
          refine e_icmp_gt 98 125 dX9_step_95 (by decide) (by omega) (by decide) rfl (fun b95 => ?_) (fun b95 => ?_)
          · first
             | (exfalso; omega)
             | (skip
                rw [if_neg (by omega)] at h
                exact h)
          · first
             | (exfalso; omega)
             | (skip
                refine e_aload_n (i := 0) 99 dX9_step_98 rfl rfl rfl ?_
                refine e_getr (j := 0) 102 fl_9_9 dX9_step_99 at_883 rfl rfl tp_883_0 rfl ?_
                refine e_aload_n (i := 0) 103 dX9_step_102 rfl rfl rfl ?_
                refine e_geti (j := 3) 106 fl_9_28 dX9_step_103 at_883 (by decide) rfl rfl (fun r103 => ?_)
                simp (disch := omega) only [pt_r5, pt_w5, pt_r3, pt_w3, pt_r4, pt_w4, pt_r6, pt_w6, pt_r2, pt_r1, pt_rb, hn8] at r103 ⊢
                refine e_bald 107 dX9_step_106 ar_884 (by omega) (by omega) rfl (fun r106 => ?_)
                simp (disch := omega) only [pt_r5, pt_w5, pt_r3, pt_w3, pt_r4, pt_w4, pt_r6, pt_w6, pt_r2, pt_r1, pt_rb, hn8] at r106 ⊢
                refine e_bipush 109 dX9_step_107 (by decide) rfl ?_
                refine e_icmp_gt 112 125 dX9_step_109 (by omega) (by decide) (by decide) rfl (fun b109 => ?_) (fun b109 => ?_)
                · first
                   | (exfalso; omega)
                   | (skip
                      rw [if_neg (by omega)] at h
                      exact h)
                · first
                   | (exfalso; omega)
                   | (skip
                      refine e_aload_n (i := 0) 113 dX9_step_112 rfl rfl rfl ?_
                      refine e_dup 114 dX9_step_113 rfl rfl ?_
                      refine e_geti (j := 3) 117 fl_9_28 dX9_step_114 at_883 (by decide) rfl rfl (fun r114 => ?_)
                      simp (disch := omega) only [pt_r5, pt_w5, pt_r3, pt_w3, pt_r4, pt_w4, pt_r6, pt_w6, pt_r2, pt_r1, pt_rb, hn8] at r114 ⊢
                      refine e_iconst 118 dX9_step_117 rfl ?_
                      refine e_iadd 119 dX9_step_118 rfl ?_
                      refine e_puti (j := 3) 122 fl_9_28 dX9_step_119 at_883 rfl rfl rfl (by omega) rfl ?_
                      refine e_goto 73 dX9_step_122 (by decide) ?_
                      rw [if_pos (by omega)] at h
                      simp (disch := omega) only [pt_r5, pt_w5, pt_r3, pt_w3, pt_r4, pt_w4, pt_r6, pt_w6, pt_r2, pt_r1, pt_rb, hn8]
                      exact ih (x + 1) (by omega) (by omega) h)))

theorem cs_d {X : jX} {Z : jM} {t : Int → Int} {n : Int} {Q : Int → jM → Prop} (hT : CB Z t n) {q so : Int} (hq0 : 0 ≤ q) : ∀ (f : Nat) (x : Int), q ≤ x → x + f = n → jE X yX9_step cX9_step 1 none 1 Q (putT Z (q, tDg t f x, so, (if tDg t f x - q ≤ 3 then tNum t q (tDg t f x - q) else 0))) 235 [(0, jR 883)] [] → jE X yX9_step cX9_step 1 none 1 Q (putT Z (q, x, so, (if x - q ≤ 3 then tNum t q (x - q) else 0))) 142 [(0, jR 883)] [] := by
  intro f
  induction f with
  | zero =>
    intro x x0 hx h
    rw [tDg] at h
    have hn8 := hT.1
    have hn := hT.2.1
    refine e_aload_n (i := 0) 143 dX9_step_142 rfl rfl rfl ?_
    refine e_geti (j := 3) 146 fl_9_28 dX9_step_143 at_883 (by decide) rfl rfl (fun r143 => ?_)
    simp (disch := omega) only [pt_r5, pt_w5, pt_r3, pt_w3, pt_r4, pt_w4, pt_r6, pt_w6, pt_r2, pt_r1, pt_rb, hn8] at r143 ⊢
    refine e_aload_n (i := 0) 147 dX9_step_146 rfl rfl rfl ?_
    refine e_geti (j := 2) 150 fl_9_25 dX9_step_147 at_883 (by decide) rfl rfl (fun r147 => ?_)
    simp (disch := omega) only [pt_r5, pt_w5, pt_r3, pt_w3, pt_r4, pt_w4, pt_r6, pt_w6, pt_r2, pt_r1, pt_rb, hn8] at r147 ⊢
    refine e_icmp_ge 153 235 dX9_step_150 (by omega) (by omega) (by decide) rfl (fun b150 => ?_) (fun b150 => ?_)
    · first
       | (exfalso; omega)
       | (skip
          exact h)
    · first
       | (exfalso; omega)
       | (skip
          refine e_bipush 155 dX9_step_153 (by decide) rfl ?_
          refine e_aload_n (i := 0) 156 dX9_step_155 rfl rfl rfl ?_
          refine e_getr (j := 0) 159 fl_9_9 dX9_step_156 at_883 rfl rfl tp_883_0 rfl ?_
          refine e_aload_n (i := 0) 160 dX9_step_159 rfl rfl rfl ?_
          refine e_geti (j := 3) 163 fl_9_28 dX9_step_160 at_883 (by decide) rfl rfl (fun r160 => ?_)
          simp (disch := omega) only [pt_r5, pt_w5, pt_r3, pt_w3, pt_r4, pt_w4, pt_r6, pt_w6, pt_r2, pt_r1, pt_rb, hn8] at r160 ⊢
          refine e_bald 164 dX9_step_163 ar_884 (by omega) (by omega) rfl (fun r163 => ?_)
          simp (disch := omega) only [pt_r5, pt_w5, pt_r3, pt_w3, pt_r4, pt_w4, pt_r6, pt_w6, pt_r2, pt_r1, pt_rb, hn8] at r163 ⊢
          refine e_icmp_gt 167 235 dX9_step_164 (by decide) (by omega) (by decide) rfl (fun b164 => ?_) (fun b164 => ?_)
          · first
             | (exfalso; omega)
             | (skip
                exact h)
          · first
             | (exfalso; omega)
             | (skip
                refine e_aload_n (i := 0) 168 dX9_step_167 rfl rfl rfl ?_
                refine e_getr (j := 0) 171 fl_9_9 dX9_step_168 at_883 rfl rfl tp_883_0 rfl ?_
                refine e_aload_n (i := 0) 172 dX9_step_171 rfl rfl rfl ?_
                refine e_geti (j := 3) 175 fl_9_28 dX9_step_172 at_883 (by decide) rfl rfl (fun r172 => ?_)
                simp (disch := omega) only [pt_r5, pt_w5, pt_r3, pt_w3, pt_r4, pt_w4, pt_r6, pt_w6, pt_r2, pt_r1, pt_rb, hn8] at r172 ⊢
                refine e_bald 176 dX9_step_175 ar_884 (by omega) (by omega) rfl (fun r175 => ?_)
                simp (disch := omega) only [pt_r5, pt_w5, pt_r3, pt_w3, pt_r4, pt_w4, pt_r6, pt_w6, pt_r2, pt_r1, pt_rb, hn8] at r175 ⊢
                refine e_bipush 178 dX9_step_176 (by decide) rfl ?_
                refine e_icmp_gt 181 235 dX9_step_178 (by omega) (by decide) (by decide) rfl (fun b178 => ?_) (fun b178 => ?_)
                · first
                   | (exfalso; omega)
                   | (skip
                      exact h)
                · first
                   | (exfalso; omega)
                   | (skip
                      refine e_aload_n (i := 0) 182 dX9_step_181 rfl rfl rfl ?_
                      refine e_aload_n (i := 0) 183 dX9_step_182 rfl rfl rfl ?_
                      refine e_geti (j := 3) 186 fl_9_28 dX9_step_183 at_883 (by decide) rfl rfl (fun r183 => ?_)
                      simp (disch := omega) only [pt_r5, pt_w5, pt_r3, pt_w3, pt_r4, pt_w4, pt_r6, pt_w6, pt_r2, pt_r1, pt_rb, hn8] at r183 ⊢
                      refine e_aload_n (i := 0) 187 dX9_step_186 rfl rfl rfl ?_
                      refine e_geti (j := 5) 190 fl_9_34 dX9_step_187 at_883 (by decide) rfl rfl (fun r187 => ?_)
                      simp (disch := omega) only [pt_r5, pt_w5, pt_r3, pt_w3, pt_r4, pt_w4, pt_r6, pt_w6, pt_r2, pt_r1, pt_rb, hn8] at r187 ⊢
                      refine e_isub 191 dX9_step_190 rfl ?_
                      refine e_iconst 192 dX9_step_191 rfl ?_
                      refine e_icmp_ge 195 218 dX9_step_192 (by omega) (by decide) (by decide) rfl (fun b192 => ?_) (fun b192 => ?_)
                      · first
                         | (exfalso; omega)
                         | (skip
                            refine e_iconst 219 dX9_step_218 rfl ?_
                            refine e_puti (j := 6) 222 fl_9_37 dX9_step_219 at_883 rfl rfl rfl (by decide) rfl ?_
                            refine e_aload_n (i := 0) 223 dX9_step_222 rfl rfl rfl ?_
                            refine e_dup 224 dX9_step_223 rfl rfl ?_
                            refine e_geti (j := 3) 227 fl_9_28 dX9_step_224 at_883 (by decide) rfl rfl (fun r224 => ?_)
                            simp (disch := omega) only [pt_r5, pt_w5, pt_r3, pt_w3, pt_r4, pt_w4, pt_r6, pt_w6, pt_r2, pt_r1, pt_rb, hn8] at r224 ⊢
                            refine e_iconst 228 dX9_step_227 rfl ?_
                            refine e_iadd 229 dX9_step_228 rfl ?_
                            refine e_puti (j := 3) 232 fl_9_28 dX9_step_229 at_883 rfl rfl rfl (by omega) rfl ?_
                            refine e_goto 142 dX9_step_232 (by decide) ?_
                            omega)
                      · first
                         | (exfalso; omega)
                         | (skip
                            refine e_bipush 197 dX9_step_195 (by decide) rfl ?_
                            refine e_aload_n (i := 0) 198 dX9_step_197 rfl rfl rfl ?_
                            refine e_geti (j := 6) 201 fl_9_37 dX9_step_198 at_883 (by decide) rfl rfl (fun r198 => ?_)
                            simp (disch := omega) only [pt_r5, pt_w5, pt_r3, pt_w3, pt_r4, pt_w4, pt_r6, pt_w6, pt_r2, pt_r1, pt_rb, hn8] at r198 ⊢
                            refine e_imul 202 dX9_step_201 rfl ?_
                            refine e_aload_n (i := 0) 203 dX9_step_202 rfl rfl rfl ?_
                            refine e_getr (j := 0) 206 fl_9_9 dX9_step_203 at_883 rfl rfl tp_883_0 rfl ?_
                            refine e_aload_n (i := 0) 207 dX9_step_206 rfl rfl rfl ?_
                            refine e_geti (j := 3) 210 fl_9_28 dX9_step_207 at_883 (by decide) rfl rfl (fun r207 => ?_)
                            simp (disch := omega) only [pt_r5, pt_w5, pt_r3, pt_w3, pt_r4, pt_w4, pt_r6, pt_w6, pt_r2, pt_r1, pt_rb, hn8] at r207 ⊢
                            refine e_bald 211 dX9_step_210 ar_884 (by omega) (by omega) rfl (fun r210 => ?_)
                            simp (disch := omega) only [pt_r5, pt_w5, pt_r3, pt_w3, pt_r4, pt_w4, pt_r6, pt_w6, pt_r2, pt_r1, pt_rb, hn8] at r210 ⊢
                            refine e_iadd 212 dX9_step_211 rfl ?_
                            refine e_bipush 214 dX9_step_212 (by decide) rfl ?_
                            refine e_isub 215 dX9_step_214 rfl ?_
                            refine e_goto 219 dX9_step_215 (by decide) ?_
                            refine e_puti (j := 6) 222 fl_9_37 dX9_step_219 at_883 rfl rfl rfl (by omega) rfl ?_
                            refine e_aload_n (i := 0) 223 dX9_step_222 rfl rfl rfl ?_
                            refine e_dup 224 dX9_step_223 rfl rfl ?_
                            refine e_geti (j := 3) 227 fl_9_28 dX9_step_224 at_883 (by decide) rfl rfl (fun r224 => ?_)
                            simp (disch := omega) only [pt_r5, pt_w5, pt_r3, pt_w3, pt_r4, pt_w4, pt_r6, pt_w6, pt_r2, pt_r1, pt_rb, hn8] at r224 ⊢
                            refine e_iconst 228 dX9_step_227 rfl ?_
                            refine e_iadd 229 dX9_step_228 rfl ?_
                            refine e_puti (j := 3) 232 fl_9_28 dX9_step_229 at_883 rfl rfl rfl (by omega) rfl ?_
                            refine e_goto 142 dX9_step_232 (by decide) ?_
                            omega))))
  | succ f ih =>
    intro x x0 hx h
    rw [tDg] at h
    have hby := hT.2.2 x (by omega) (by omega)
    have hb8 := w8_c hby.1
    have hb9 := hby.2
    have hnr := tNum_in (t := t) (p := q) (k := x - q) (fun i a b => (hT.2.2 i (by omega) (by omega)).1)
    have hst : x - q < 3 → 10 * tNum t q (x - q) + t x - 48 = tNum t q (x + 1 - q) := fun hl => by
      have e := tNum_s (t := t) (p := q) (k := x - q) (by omega) hl
      rw [show q + (x - q) = x by omega, show x - q + 1 = x + 1 - q by omega] at e
      exact e
    by_cases hl : x - q < 3
    case pos =>
      rw [show (if x - q ≤ 3 then tNum t q (x - q) else 0) = tNum t q (x - q) from if_pos (by omega)]
      have hn8 := hT.1
      have hn := hT.2.1
      refine e_aload_n (i := 0) 143 dX9_step_142 rfl rfl rfl ?_
      refine e_geti (j := 3) 146 fl_9_28 dX9_step_143 at_883 (by decide) rfl rfl (fun r143 => ?_)
      simp (disch := omega) only [pt_r5, pt_w5, pt_r3, pt_w3, pt_r4, pt_w4, pt_r6, pt_w6, pt_r2, pt_r1, pt_rb, hn8] at r143 ⊢
      refine e_aload_n (i := 0) 147 dX9_step_146 rfl rfl rfl ?_
      refine e_geti (j := 2) 150 fl_9_25 dX9_step_147 at_883 (by decide) rfl rfl (fun r147 => ?_)
      simp (disch := omega) only [pt_r5, pt_w5, pt_r3, pt_w3, pt_r4, pt_w4, pt_r6, pt_w6, pt_r2, pt_r1, pt_rb, hn8] at r147 ⊢
      refine e_icmp_ge 153 235 dX9_step_150 (by omega) (by omega) (by decide) rfl (fun b150 => ?_) (fun b150 => ?_)
      · first
         | (exfalso; omega)
         | (skip
            rw [if_neg (by omega), if_pos (by omega)] at h
            exact h)
      · first
         | (exfalso; omega)
         | (skip
            refine e_bipush 155 dX9_step_153 (by decide) rfl ?_
            refine e_aload_n (i := 0) 156 dX9_step_155 rfl rfl rfl ?_
            refine e_getr (j := 0) 159 fl_9_9 dX9_step_156 at_883 rfl rfl tp_883_0 rfl ?_
            refine e_aload_n (i := 0) 160 dX9_step_159 rfl rfl rfl ?_
            refine e_geti (j := 3) 163 fl_9_28 dX9_step_160 at_883 (by decide) rfl rfl (fun r160 => ?_)
            simp (disch := omega) only [pt_r5, pt_w5, pt_r3, pt_w3, pt_r4, pt_w4, pt_r6, pt_w6, pt_r2, pt_r1, pt_rb, hn8] at r160 ⊢
            refine e_bald 164 dX9_step_163 ar_884 (by omega) (by omega) rfl (fun r163 => ?_)
            simp (disch := omega) only [pt_r5, pt_w5, pt_r3, pt_w3, pt_r4, pt_w4, pt_r6, pt_w6, pt_r2, pt_r1, pt_rb, hn8] at r163 ⊢
            refine e_icmp_gt 167 235 dX9_step_164 (by decide) (by omega) (by decide) rfl (fun b164 => ?_) (fun b164 => ?_)
            · first
               | (exfalso; omega)
               | (skip
                  rw [if_neg (by omega), if_pos (by omega)] at h
                  exact h)
            · first
               | (exfalso; omega)
               | (skip
                  refine e_aload_n (i := 0) 168 dX9_step_167 rfl rfl rfl ?_
                  refine e_getr (j := 0) 171 fl_9_9 dX9_step_168 at_883 rfl rfl tp_883_0 rfl ?_
                  refine e_aload_n (i := 0) 172 dX9_step_171 rfl rfl rfl ?_
                  refine e_geti (j := 3) 175 fl_9_28 dX9_step_172 at_883 (by decide) rfl rfl (fun r172 => ?_)
                  simp (disch := omega) only [pt_r5, pt_w5, pt_r3, pt_w3, pt_r4, pt_w4, pt_r6, pt_w6, pt_r2, pt_r1, pt_rb, hn8] at r172 ⊢
                  refine e_bald 176 dX9_step_175 ar_884 (by omega) (by omega) rfl (fun r175 => ?_)
                  simp (disch := omega) only [pt_r5, pt_w5, pt_r3, pt_w3, pt_r4, pt_w4, pt_r6, pt_w6, pt_r2, pt_r1, pt_rb, hn8] at r175 ⊢
                  refine e_bipush 178 dX9_step_176 (by decide) rfl ?_
                  refine e_icmp_gt 181 235 dX9_step_178 (by omega) (by decide) (by decide) rfl (fun b178 => ?_) (fun b178 => ?_)
                  · first
                     | (exfalso; omega)
                     | (skip
                        rw [if_neg (by omega), if_pos (by omega)] at h
                        exact h)
                  · first
                     | (exfalso; omega)
                     | (skip
                        refine e_aload_n (i := 0) 182 dX9_step_181 rfl rfl rfl ?_
                        refine e_aload_n (i := 0) 183 dX9_step_182 rfl rfl rfl ?_
                        refine e_geti (j := 3) 186 fl_9_28 dX9_step_183 at_883 (by decide) rfl rfl (fun r183 => ?_)
                        simp (disch := omega) only [pt_r5, pt_w5, pt_r3, pt_w3, pt_r4, pt_w4, pt_r6, pt_w6, pt_r2, pt_r1, pt_rb, hn8] at r183 ⊢
                        refine e_aload_n (i := 0) 187 dX9_step_186 rfl rfl rfl ?_
                        refine e_geti (j := 5) 190 fl_9_34 dX9_step_187 at_883 (by decide) rfl rfl (fun r187 => ?_)
                        simp (disch := omega) only [pt_r5, pt_w5, pt_r3, pt_w3, pt_r4, pt_w4, pt_r6, pt_w6, pt_r2, pt_r1, pt_rb, hn8] at r187 ⊢
                        refine e_isub 191 dX9_step_190 rfl ?_
                        refine e_iconst 192 dX9_step_191 rfl ?_
                        refine e_icmp_ge 195 218 dX9_step_192 (by omega) (by decide) (by decide) rfl (fun b192 => ?_) (fun b192 => ?_)
                        · omega
                        · first
                           | (exfalso; omega)
                           | (skip
                              refine e_bipush 197 dX9_step_195 (by decide) rfl ?_
                              refine e_aload_n (i := 0) 198 dX9_step_197 rfl rfl rfl ?_
                              refine e_geti (j := 6) 201 fl_9_37 dX9_step_198 at_883 (by decide) rfl rfl (fun r198 => ?_)
                              simp (disch := omega) only [pt_r5, pt_w5, pt_r3, pt_w3, pt_r4, pt_w4, pt_r6, pt_w6, pt_r2, pt_r1, pt_rb, hn8] at r198 ⊢
                              refine e_imul 202 dX9_step_201 rfl ?_
                              refine e_aload_n (i := 0) 203 dX9_step_202 rfl rfl rfl ?_
                              refine e_getr (j := 0) 206 fl_9_9 dX9_step_203 at_883 rfl rfl tp_883_0 rfl ?_
                              refine e_aload_n (i := 0) 207 dX9_step_206 rfl rfl rfl ?_
                              refine e_geti (j := 3) 210 fl_9_28 dX9_step_207 at_883 (by decide) rfl rfl (fun r207 => ?_)
                              simp (disch := omega) only [pt_r5, pt_w5, pt_r3, pt_w3, pt_r4, pt_w4, pt_r6, pt_w6, pt_r2, pt_r1, pt_rb, hn8] at r207 ⊢
                              refine e_bald 211 dX9_step_210 ar_884 (by omega) (by omega) rfl (fun r210 => ?_)
                              simp (disch := omega) only [pt_r5, pt_w5, pt_r3, pt_w3, pt_r4, pt_w4, pt_r6, pt_w6, pt_r2, pt_r1, pt_rb, hn8] at r210 ⊢
                              refine e_iadd 212 dX9_step_211 rfl ?_
                              refine e_bipush 214 dX9_step_212 (by decide) rfl ?_
                              refine e_isub 215 dX9_step_214 rfl ?_
                              refine e_goto 219 dX9_step_215 (by decide) ?_
                              refine e_puti (j := 6) 222 fl_9_37 dX9_step_219 at_883 rfl rfl rfl (by omega) rfl ?_
                              refine e_aload_n (i := 0) 223 dX9_step_222 rfl rfl rfl ?_
                              refine e_dup 224 dX9_step_223 rfl rfl ?_
                              refine e_geti (j := 3) 227 fl_9_28 dX9_step_224 at_883 (by decide) rfl rfl (fun r224 => ?_)
                              simp (disch := omega) only [pt_r5, pt_w5, pt_r3, pt_w3, pt_r4, pt_w4, pt_r6, pt_w6, pt_r2, pt_r1, pt_rb, hn8] at r224 ⊢
                              refine e_iconst 228 dX9_step_227 rfl ?_
                              refine e_iadd 229 dX9_step_228 rfl ?_
                              refine e_puti (j := 3) 232 fl_9_28 dX9_step_229 at_883 rfl rfl rfl (by omega) rfl ?_
                              refine e_goto 142 dX9_step_232 (by decide) ?_
                              rw [if_pos (by omega)] at h
                              simp (disch := omega) only [pt_r5, pt_w5, pt_r3, pt_w3, pt_r4, pt_w4, pt_r6, pt_w6, pt_r2, pt_r1, pt_rb, hn8]
                              have e2 : 10 * tNum t q (x - q) + Z 884 x - 48 = (if x + 1 - q ≤ 3 then tNum t q (x + 1 - q) else 0) := by
                                rw [if_pos (by omega), ← hst hl]
                                omega
                              rw [e2]
                              exact ih (x + 1) (by omega) (by omega) h))))
    case neg =>
      have hn8 := hT.1
      have hn := hT.2.1
      refine e_aload_n (i := 0) 143 dX9_step_142 rfl rfl rfl ?_
      refine e_geti (j := 3) 146 fl_9_28 dX9_step_143 at_883 (by decide) rfl rfl (fun r143 => ?_)
      simp (disch := omega) only [pt_r5, pt_w5, pt_r3, pt_w3, pt_r4, pt_w4, pt_r6, pt_w6, pt_r2, pt_r1, pt_rb, hn8] at r143 ⊢
      refine e_aload_n (i := 0) 147 dX9_step_146 rfl rfl rfl ?_
      refine e_geti (j := 2) 150 fl_9_25 dX9_step_147 at_883 (by decide) rfl rfl (fun r147 => ?_)
      simp (disch := omega) only [pt_r5, pt_w5, pt_r3, pt_w3, pt_r4, pt_w4, pt_r6, pt_w6, pt_r2, pt_r1, pt_rb, hn8] at r147 ⊢
      refine e_icmp_ge 153 235 dX9_step_150 (by omega) (by omega) (by decide) rfl (fun b150 => ?_) (fun b150 => ?_)
      · first
         | (exfalso; omega)
         | (skip
            rw [if_neg (by omega)] at h
            exact h)
      · first
         | (exfalso; omega)
         | (skip
            refine e_bipush 155 dX9_step_153 (by decide) rfl ?_
            refine e_aload_n (i := 0) 156 dX9_step_155 rfl rfl rfl ?_
            refine e_getr (j := 0) 159 fl_9_9 dX9_step_156 at_883 rfl rfl tp_883_0 rfl ?_
            refine e_aload_n (i := 0) 160 dX9_step_159 rfl rfl rfl ?_
            refine e_geti (j := 3) 163 fl_9_28 dX9_step_160 at_883 (by decide) rfl rfl (fun r160 => ?_)
            simp (disch := omega) only [pt_r5, pt_w5, pt_r3, pt_w3, pt_r4, pt_w4, pt_r6, pt_w6, pt_r2, pt_r1, pt_rb, hn8] at r160 ⊢
            refine e_bald 164 dX9_step_163 ar_884 (by omega) (by omega) rfl (fun r163 => ?_)
            simp (disch := omega) only [pt_r5, pt_w5, pt_r3, pt_w3, pt_r4, pt_w4, pt_r6, pt_w6, pt_r2, pt_r1, pt_rb, hn8] at r163 ⊢
            refine e_icmp_gt 167 235 dX9_step_164 (by decide) (by omega) (by decide) rfl (fun b164 => ?_) (fun b164 => ?_)
            · first
               | (exfalso; omega)
               | (skip
                  rw [if_neg (by omega)] at h
                  exact h)
            · first
               | (exfalso; omega)
               | (skip
                  refine e_aload_n (i := 0) 168 dX9_step_167 rfl rfl rfl ?_
                  refine e_getr (j := 0) 171 fl_9_9 dX9_step_168 at_883 rfl rfl tp_883_0 rfl ?_
                  refine e_aload_n (i := 0) 172 dX9_step_171 rfl rfl rfl ?_
                  refine e_geti (j := 3) 175 fl_9_28 dX9_step_172 at_883 (by decide) rfl rfl (fun r172 => ?_)
                  simp (disch := omega) only [pt_r5, pt_w5, pt_r3, pt_w3, pt_r4, pt_w4, pt_r6, pt_w6, pt_r2, pt_r1, pt_rb, hn8] at r172 ⊢
                  refine e_bald 176 dX9_step_175 ar_884 (by omega) (by omega) rfl (fun r175 => ?_)
                  simp (disch := omega) only [pt_r5, pt_w5, pt_r3, pt_w3, pt_r4, pt_w4, pt_r6, pt_w6, pt_r2, pt_r1, pt_rb, hn8] at r175 ⊢
                  refine e_bipush 178 dX9_step_176 (by decide) rfl ?_
                  refine e_icmp_gt 181 235 dX9_step_178 (by omega) (by decide) (by decide) rfl (fun b178 => ?_) (fun b178 => ?_)
                  · first
                     | (exfalso; omega)
                     | (skip
                        rw [if_neg (by omega)] at h
                        exact h)
                  · first
                     | (exfalso; omega)
                     | (skip
                        refine e_aload_n (i := 0) 182 dX9_step_181 rfl rfl rfl ?_
                        refine e_aload_n (i := 0) 183 dX9_step_182 rfl rfl rfl ?_
                        refine e_geti (j := 3) 186 fl_9_28 dX9_step_183 at_883 (by decide) rfl rfl (fun r183 => ?_)
                        simp (disch := omega) only [pt_r5, pt_w5, pt_r3, pt_w3, pt_r4, pt_w4, pt_r6, pt_w6, pt_r2, pt_r1, pt_rb, hn8] at r183 ⊢
                        refine e_aload_n (i := 0) 187 dX9_step_186 rfl rfl rfl ?_
                        refine e_geti (j := 5) 190 fl_9_34 dX9_step_187 at_883 (by decide) rfl rfl (fun r187 => ?_)
                        simp (disch := omega) only [pt_r5, pt_w5, pt_r3, pt_w3, pt_r4, pt_w4, pt_r6, pt_w6, pt_r2, pt_r1, pt_rb, hn8] at r187 ⊢
                        refine e_isub 191 dX9_step_190 rfl ?_
                        refine e_iconst 192 dX9_step_191 rfl ?_
                        refine e_icmp_ge 195 218 dX9_step_192 (by omega) (by decide) (by decide) rfl (fun b192 => ?_) (fun b192 => ?_)
                        · first
                           | (exfalso; omega)
                           | (skip
                              refine e_iconst 219 dX9_step_218 rfl ?_
                              refine e_puti (j := 6) 222 fl_9_37 dX9_step_219 at_883 rfl rfl rfl (by decide) rfl ?_
                              refine e_aload_n (i := 0) 223 dX9_step_222 rfl rfl rfl ?_
                              refine e_dup 224 dX9_step_223 rfl rfl ?_
                              refine e_geti (j := 3) 227 fl_9_28 dX9_step_224 at_883 (by decide) rfl rfl (fun r224 => ?_)
                              simp (disch := omega) only [pt_r5, pt_w5, pt_r3, pt_w3, pt_r4, pt_w4, pt_r6, pt_w6, pt_r2, pt_r1, pt_rb, hn8] at r224 ⊢
                              refine e_iconst 228 dX9_step_227 rfl ?_
                              refine e_iadd 229 dX9_step_228 rfl ?_
                              refine e_puti (j := 3) 232 fl_9_28 dX9_step_229 at_883 rfl rfl rfl (by omega) rfl ?_
                              refine e_goto 142 dX9_step_232 (by decide) ?_
                              rw [if_pos (by omega)] at h
                              simp (disch := omega) only [pt_r5, pt_w5, pt_r3, pt_w3, pt_r4, pt_w4, pt_r6, pt_w6, pt_r2, pt_r1, pt_rb, hn8]
                              have e2 : (0 : Int) = (if x + 1 - q ≤ 3 then tNum t q (x + 1 - q) else 0) := by
                                rw [if_neg (by omega)]
                              rw [e2]
                              exact ih (x + 1) (by omega) (by omega) h)
                        · omega)))

theorem c_step0 {Z : jM} {t : Int → Int} {n : Int} {Q : Int → jM → Prop} (hT : CB Z t n) {s : TS} (hb : 0 ≤ s.2.1 ∧ s.2.1 ≤ n) (h : Q 0 (putT Z (cStep t n s))) : jCt yX9_step cX9_step 1 none 1 [jR 883] (putT Z s) Q := by
  refine jCt_of mt_yX9_step (Nat.le_of_ble_eq_true rfl) (fun X => ?_)
  have hn8 := hT.1
  have hn := hT.2.1
  have hr := tBl_rng (t := t) (n - s.2.1).toNat s.2.1
  unfold cStep tPl at h
  obtain ⟨q, hq⟩ : ∃ q, q = tBl t (n - s.2.1).toNat s.2.1 := ⟨_, rfl⟩
  rw [← hq] at h hr
  refine e_aload_n (i := 0) 1 dX9_step_0 rfl rfl rfl ?_
  refine e_aload_n (i := 0) 2 dX9_step_1 rfl rfl rfl ?_
  refine e_geti (j := 3) 5 fl_9_28 dX9_step_2 at_883 (by decide) rfl rfl (fun r2 => ?_)
  simp (disch := omega) only [pt_r5, pt_w5, pt_r3, pt_w3, pt_r4, pt_w4, pt_r6, pt_w6, pt_r2, pt_r1, pt_rb, hn8] at r2 ⊢
  refine e_puti (j := 5) 8 fl_9_34 dX9_step_5 at_883 rfl rfl rfl (by omega) rfl ?_
  simp (disch := omega) only [pt_r5, pt_w5, pt_r3, pt_w3, pt_r4, pt_w4, pt_r6, pt_w6, pt_r2, pt_r1, pt_rb, hn8]
  refine cs_b hT (n - s.2.1).toNat s.2.1 (by omega) (by omega) ?_
  rw [← hq]
  refine e_aload_n (i := 0) 61 dX9_step_60 rfl rfl rfl ?_
  refine e_aload_n (i := 0) 62 dX9_step_61 rfl rfl rfl ?_
  refine e_geti (j := 5) 65 fl_9_34 dX9_step_62 at_883 (by decide) rfl rfl (fun r62 => ?_)
  simp (disch := omega) only [pt_r5, pt_w5, pt_r3, pt_w3, pt_r4, pt_w4, pt_r6, pt_w6, pt_r2, pt_r1, pt_rb, hn8] at r62 ⊢
  refine e_puti (j := 3) 68 fl_9_28 dX9_step_65 at_883 rfl rfl rfl (by omega) rfl ?_
  refine e_aload_n (i := 0) 69 dX9_step_68 rfl rfl rfl ?_
  refine e_iconst 70 dX9_step_69 rfl ?_
  refine e_puti (j := 6) 73 fl_9_37 dX9_step_70 at_883 rfl rfl rfl (by decide) rfl ?_
  simp (disch := omega) only [pt_r5, pt_w5, pt_r3, pt_w3, pt_r4, pt_w4, pt_r6, pt_w6, pt_r2, pt_r1, pt_rb, hn8]
  refine cs_s hT (n - q).toNat q (by omega) (by omega) ?_
  have hr2 := tSm_rng (t := t) (n - q).toNat q
  have hr3 := tDg_rng (t := t) (n - q).toNat q
  have hby : q < n → (0 ≤ t q ∧ t q ≤ 255) ∧ Z 884 q = w8 (t q) := fun z => hT.2.2 q (by omega) z
  by_cases c1 : n ≤ q
  case pos =>
    have e1 : tSm t (n - q).toNat q = q := by
      rw [show (n - q).toNat = 0 by omega, tSm]
    rw [e1]
    have e2 : tDg t (n - q).toNat q = q := by
      rw [show (n - q).toNat = 0 by omega, tDg]
    refine e_aload_n (i := 0) 126 dX9_step_125 rfl rfl rfl ?_
    refine e_geti (j := 3) 129 fl_9_28 dX9_step_126 at_883 (by decide) rfl rfl (fun r126 => ?_)
    simp (disch := omega) only [pt_r5, pt_w5, pt_r3, pt_w3, pt_r4, pt_w4, pt_r6, pt_w6, pt_r2, pt_r1, pt_rb, hn8] at r126 ⊢
    refine e_aload_n (i := 0) 130 dX9_step_129 rfl rfl rfl ?_
    refine e_geti (j := 5) 133 fl_9_34 dX9_step_130 at_883 (by decide) rfl rfl (fun r130 => ?_)
    simp (disch := omega) only [pt_r5, pt_w5, pt_r3, pt_w3, pt_r4, pt_w4, pt_r6, pt_w6, pt_r2, pt_r1, pt_rb, hn8] at r130 ⊢
    refine e_icmp_le 136 142 dX9_step_133 (by omega) (by omega) (by decide) rfl (fun b133 => ?_) (fun b133 => ?_)
    · first
       | (exfalso; omega)
       | (skip
          have h00 : (0 : Int) = (if q - q ≤ 3 then tNum t q (q - q) else 0) := by
            rw [if_pos (by omega), tNum, if_pos (by omega)]
          rw [h00]
          refine cs_d hT (by omega) (n - q).toNat q (by omega) (by omega) ?_
          rw [e2]
          rw [show (if q - q ≤ 3 then tNum t q (q - q) else 0) = 0 from by rw [if_pos (by omega), tNum, if_pos (by omega)]]
          refine e_aload_n (i := 0) 236 dX9_step_235 rfl rfl rfl ?_
          refine e_geti (j := 3) 239 fl_9_28 dX9_step_236 at_883 (by decide) rfl rfl (fun r236 => ?_)
          simp (disch := omega) only [pt_r5, pt_w5, pt_r3, pt_w3, pt_r4, pt_w4, pt_r6, pt_w6, pt_r2, pt_r1, pt_rb, hn8] at r236 ⊢
          refine e_aload_n (i := 0) 240 dX9_step_239 rfl rfl rfl ?_
          refine e_geti (j := 5) 243 fl_9_34 dX9_step_240 at_883 (by decide) rfl rfl (fun r240 => ?_)
          simp (disch := omega) only [pt_r5, pt_w5, pt_r3, pt_w3, pt_r4, pt_w4, pt_r6, pt_w6, pt_r2, pt_r1, pt_rb, hn8] at r240 ⊢
          refine e_icmp_le 246 271 dX9_step_243 (by omega) (by omega) (by decide) rfl (fun b243 => ?_) (fun b243 => ?_)
          · first
             | (exfalso; omega)
             | (skip
                refine e_aload_n (i := 0) 272 dX9_step_271 rfl rfl rfl ?_
                refine e_geti (j := 5) 275 fl_9_34 dX9_step_272 at_883 (by decide) rfl rfl (fun r272 => ?_)
                simp (disch := omega) only [pt_r5, pt_w5, pt_r3, pt_w3, pt_r4, pt_w4, pt_r6, pt_w6, pt_r2, pt_r1, pt_rb, hn8] at r272 ⊢
                refine e_aload_n (i := 0) 276 dX9_step_275 rfl rfl rfl ?_
                refine e_geti (j := 2) 279 fl_9_25 dX9_step_276 at_883 (by decide) rfl rfl (fun r276 => ?_)
                simp (disch := omega) only [pt_r5, pt_w5, pt_r3, pt_w3, pt_r4, pt_w4, pt_r6, pt_w6, pt_r2, pt_r1, pt_rb, hn8] at r276 ⊢
                refine e_icmp_lt 282 290 dX9_step_279 (by omega) (by omega) (by decide) rfl (fun b279 => ?_) (fun b279 => ?_)
                · first
                   | (exfalso; omega)
                   | (skip
                      refine e_aload_n (i := 0) 291 dX9_step_290 rfl rfl rfl ?_
                      refine e_aload_n (i := 0) 292 dX9_step_291 rfl rfl rfl ?_
                      refine e_getr (j := 0) 295 fl_9_9 dX9_step_292 at_883 rfl rfl tp_883_0 rfl ?_
                      refine e_aload_n (i := 0) 296 dX9_step_295 rfl rfl rfl ?_
                      refine e_geti (j := 5) 299 fl_9_34 dX9_step_296 at_883 (by decide) rfl rfl (fun r296 => ?_)
                      simp (disch := omega) only [pt_r5, pt_w5, pt_r3, pt_w3, pt_r4, pt_w4, pt_r6, pt_w6, pt_r2, pt_r1, pt_rb, hn8] at r296 ⊢
                      refine e_bald 300 dX9_step_299 ar_884 (by omega) (by omega) rfl (fun r299 => ?_)
                      simp (disch := omega) only [pt_r5, pt_w5, pt_r3, pt_w3, pt_r4, pt_w4, pt_r6, pt_w6, pt_r2, pt_r1, pt_rb, hn8] at r299 ⊢
                      refine e_puti (j := 6) 303 fl_9_37 dX9_step_300 at_883 rfl rfl rfl (by omega) rfl ?_
                      refine e_aload_n (i := 0) 304 dX9_step_303 rfl rfl rfl ?_
                      refine e_aload_n (i := 0) 305 dX9_step_304 rfl rfl rfl ?_
                      refine e_geti (j := 6) 308 fl_9_37 dX9_step_305 at_883 (by decide) rfl rfl (fun r305 => ?_)
                      simp (disch := omega) only [pt_r5, pt_w5, pt_r3, pt_w3, pt_r4, pt_w4, pt_r6, pt_w6, pt_r2, pt_r1, pt_rb, hn8] at r305 ⊢
                      refine e_bipush 310 dX9_step_308 (by decide) rfl ?_
                      refine e_icmp_eq 313 331 dX9_step_310 (by omega) (by decide) (by decide) rfl (fun b310 => ?_) (fun b310 => ?_)
                      · first
                         | (exfalso; omega)
                         | (skip
                            refine e_iconst 332 dX9_step_331 rfl ?_
                            refine e_goto 336 dX9_step_332 (by decide) ?_
                            refine e_puti (j := 4) 339 fl_9_40 dX9_step_336 at_883 rfl rfl rfl (by decide) rfl ?_
                            refine e_aload_n (i := 0) 340 dX9_step_339 rfl rfl rfl ?_
                            refine e_dup 341 dX9_step_340 rfl rfl ?_
                            refine e_geti (j := 3) 344 fl_9_28 dX9_step_341 at_883 (by decide) rfl rfl (fun r341 => ?_)
                            simp (disch := omega) only [pt_r5, pt_w5, pt_r3, pt_w3, pt_r4, pt_w4, pt_r6, pt_w6, pt_r2, pt_r1, pt_rb, hn8] at r341 ⊢
                            refine e_iconst 345 dX9_step_344 rfl ?_
                            refine e_iadd 346 dX9_step_345 rfl ?_
                            refine e_puti (j := 3) 349 fl_9_28 dX9_step_346 at_883 rfl rfl rfl (by omega) rfl ?_
                            refine e_vret dX9_step_349 ?_
                            first
                              | (exfalso; omega)
                              | (have hB : tBe t n q = q + 1 := by
                                   unfold tBe
                                   rw [if_neg (by omega), if_neg (by omega), if_neg (by omega)]
                                 have hS : cSo t n q = 4 := by
                                   unfold cSo
                                   rw [if_neg (by omega), if_neg (by omega), if_neg (by omega), if_pos (by omega)]
                                 have hV : cVa t n q = w8 (t q) := by
                                   unfold cVa
                                   rw [if_neg (by omega), if_neg (by omega), if_neg (by omega)]
                                 rw [hS, hV, hB, ← hb9] at h
                                 (try simp (disch := omega) only [pt_r5, pt_w5, pt_r3, pt_w3, pt_r4, pt_w4, pt_r6, pt_w6, pt_r2, pt_r1, pt_rb, hn8])
                                 exact h))
                      · first
                         | (exfalso; omega)
                         | (skip
                            refine e_aload_n (i := 0) 314 dX9_step_313 rfl rfl rfl ?_
                            refine e_geti (j := 6) 317 fl_9_37 dX9_step_314 at_883 (by decide) rfl rfl (fun r314 => ?_)
                            simp (disch := omega) only [pt_r5, pt_w5, pt_r3, pt_w3, pt_r4, pt_w4, pt_r6, pt_w6, pt_r2, pt_r1, pt_rb, hn8] at r314 ⊢
                            refine e_bipush 319 dX9_step_317 (by decide) rfl ?_
                            refine e_icmp_eq 322 331 dX9_step_319 (by omega) (by decide) (by decide) rfl (fun b319 => ?_) (fun b319 => ?_)
                            · first
                               | (exfalso; omega)
                               | (skip
                                  refine e_iconst 332 dX9_step_331 rfl ?_
                                  refine e_goto 336 dX9_step_332 (by decide) ?_
                                  refine e_puti (j := 4) 339 fl_9_40 dX9_step_336 at_883 rfl rfl rfl (by decide) rfl ?_
                                  refine e_aload_n (i := 0) 340 dX9_step_339 rfl rfl rfl ?_
                                  refine e_dup 341 dX9_step_340 rfl rfl ?_
                                  refine e_geti (j := 3) 344 fl_9_28 dX9_step_341 at_883 (by decide) rfl rfl (fun r341 => ?_)
                                  simp (disch := omega) only [pt_r5, pt_w5, pt_r3, pt_w3, pt_r4, pt_w4, pt_r6, pt_w6, pt_r2, pt_r1, pt_rb, hn8] at r341 ⊢
                                  refine e_iconst 345 dX9_step_344 rfl ?_
                                  refine e_iadd 346 dX9_step_345 rfl ?_
                                  refine e_puti (j := 3) 349 fl_9_28 dX9_step_346 at_883 rfl rfl rfl (by omega) rfl ?_
                                  refine e_vret dX9_step_349 ?_
                                  first
                                    | (exfalso; omega)
                                    | (have hB : tBe t n q = q + 1 := by
                                         unfold tBe
                                         rw [if_neg (by omega), if_neg (by omega), if_neg (by omega)]
                                       have hS : cSo t n q = 4 := by
                                         unfold cSo
                                         rw [if_neg (by omega), if_neg (by omega), if_neg (by omega), if_pos (by omega)]
                                       have hV : cVa t n q = w8 (t q) := by
                                         unfold cVa
                                         rw [if_neg (by omega), if_neg (by omega), if_neg (by omega)]
                                       rw [hS, hV, hB, ← hb9] at h
                                       (try simp (disch := omega) only [pt_r5, pt_w5, pt_r3, pt_w3, pt_r4, pt_w4, pt_r6, pt_w6, pt_r2, pt_r1, pt_rb, hn8])
                                       exact h))
                            · first
                               | (exfalso; omega)
                               | (skip
                                  refine e_aload_n (i := 0) 323 dX9_step_322 rfl rfl rfl ?_
                                  refine e_geti (j := 6) 326 fl_9_37 dX9_step_323 at_883 (by decide) rfl rfl (fun r323 => ?_)
                                  simp (disch := omega) only [pt_r5, pt_w5, pt_r3, pt_w3, pt_r4, pt_w4, pt_r6, pt_w6, pt_r2, pt_r1, pt_rb, hn8] at r323 ⊢
                                  refine e_bipush 328 dX9_step_326 (by decide) rfl ?_
                                  refine e_icmp_ne 331 335 dX9_step_328 (by omega) (by decide) (by decide) rfl (fun b328 => ?_) (fun b328 => ?_)
                                  · first
                                     | (exfalso; omega)
                                     | (skip
                                        refine e_iconst 336 dX9_step_335 rfl ?_
                                        refine e_puti (j := 4) 339 fl_9_40 dX9_step_336 at_883 rfl rfl rfl (by decide) rfl ?_
                                        refine e_aload_n (i := 0) 340 dX9_step_339 rfl rfl rfl ?_
                                        refine e_dup 341 dX9_step_340 rfl rfl ?_
                                        refine e_geti (j := 3) 344 fl_9_28 dX9_step_341 at_883 (by decide) rfl rfl (fun r341 => ?_)
                                        simp (disch := omega) only [pt_r5, pt_w5, pt_r3, pt_w3, pt_r4, pt_w4, pt_r6, pt_w6, pt_r2, pt_r1, pt_rb, hn8] at r341 ⊢
                                        refine e_iconst 345 dX9_step_344 rfl ?_
                                        refine e_iadd 346 dX9_step_345 rfl ?_
                                        refine e_puti (j := 3) 349 fl_9_28 dX9_step_346 at_883 rfl rfl rfl (by omega) rfl ?_
                                        refine e_vret dX9_step_349 ?_
                                        first
                                          | (exfalso; omega)
                                          | (have hB : tBe t n q = q + 1 := by
                                               unfold tBe
                                               rw [if_neg (by omega), if_neg (by omega), if_neg (by omega)]
                                             have hS : cSo t n q = 1 := by
                                               unfold cSo
                                               rw [if_neg (by omega), if_neg (by omega), if_neg (by omega), if_neg (by omega)]
                                             have hV : cVa t n q = w8 (t q) := by
                                               unfold cVa
                                               rw [if_neg (by omega), if_neg (by omega), if_neg (by omega)]
                                             rw [hS, hV, hB, ← hb9] at h
                                             (try simp (disch := omega) only [pt_r5, pt_w5, pt_r3, pt_w3, pt_r4, pt_w4, pt_r6, pt_w6, pt_r2, pt_r1, pt_rb, hn8])
                                             exact h))
                                  · first
                                     | (exfalso; omega)
                                     | (skip
                                        refine e_iconst 332 dX9_step_331 rfl ?_
                                        refine e_goto 336 dX9_step_332 (by decide) ?_
                                        refine e_puti (j := 4) 339 fl_9_40 dX9_step_336 at_883 rfl rfl rfl (by decide) rfl ?_
                                        refine e_aload_n (i := 0) 340 dX9_step_339 rfl rfl rfl ?_
                                        refine e_dup 341 dX9_step_340 rfl rfl ?_
                                        refine e_geti (j := 3) 344 fl_9_28 dX9_step_341 at_883 (by decide) rfl rfl (fun r341 => ?_)
                                        simp (disch := omega) only [pt_r5, pt_w5, pt_r3, pt_w3, pt_r4, pt_w4, pt_r6, pt_w6, pt_r2, pt_r1, pt_rb, hn8] at r341 ⊢
                                        refine e_iconst 345 dX9_step_344 rfl ?_
                                        refine e_iadd 346 dX9_step_345 rfl ?_
                                        refine e_puti (j := 3) 349 fl_9_28 dX9_step_346 at_883 rfl rfl rfl (by omega) rfl ?_
                                        refine e_vret dX9_step_349 ?_
                                        first
                                          | (exfalso; omega)
                                          | (have hB : tBe t n q = q + 1 := by
                                               unfold tBe
                                               rw [if_neg (by omega), if_neg (by omega), if_neg (by omega)]
                                             have hS : cSo t n q = 4 := by
                                               unfold cSo
                                               rw [if_neg (by omega), if_neg (by omega), if_neg (by omega), if_pos (by omega)]
                                             have hV : cVa t n q = w8 (t q) := by
                                               unfold cVa
                                               rw [if_neg (by omega), if_neg (by omega), if_neg (by omega)]
                                             rw [hS, hV, hB, ← hb9] at h
                                             (try simp (disch := omega) only [pt_r5, pt_w5, pt_r3, pt_w3, pt_r4, pt_w4, pt_r6, pt_w6, pt_r2, pt_r1, pt_rb, hn8])
                                             exact h)))))
                · first
                   | (exfalso; omega)
                   | (skip
                      refine e_aload_n (i := 0) 283 dX9_step_282 rfl rfl rfl ?_
                      refine e_iconst 284 dX9_step_283 rfl ?_
                      refine e_puti (j := 4) 287 fl_9_40 dX9_step_284 at_883 rfl rfl rfl (by decide) rfl ?_
                      refine e_goto 349 dX9_step_287 (by decide) ?_
                      refine e_vret dX9_step_349 ?_
                      first
                        | (exfalso; omega)
                        | (have hB : tBe t n q = q := by
                             unfold tBe
                             rw [if_pos (by omega)]
                           have hS : cSo t n q = 0 := by
                             unfold cSo
                             rw [if_pos (by omega)]
                           have hV : cVa t n q = 0 := by
                             unfold cVa
                             rw [if_pos (by omega)]
                           rw [hS, hV, hB] at h
                           (try simp (disch := omega) only [pt_r5, pt_w5, pt_r3, pt_w3, pt_r4, pt_w4, pt_r6, pt_w6, pt_r2, pt_r1, pt_rb, hn8])
                           exact h)))
          · omega)
    · omega
  have hb9 := (hby (by omega)).2
  have hbr := (hby (by omega)).1
  have hb8 := w8_c hbr
  have ef : (n - q).toNat = ((n - q).toNat - 1) + 1 := by omega
  by_cases c2 : 97 ≤ t q ∧ t q ≤ 122
  case pos =>
    have e1 : q + 1 ≤ tSm t (n - q).toNat q := by
      have u := tSm_rng (t := t) ((n - q).toNat - 1) (q + 1)
      rw [ef, tSm, if_pos c2]
      exact u.1
    refine e_aload_n (i := 0) 126 dX9_step_125 rfl rfl rfl ?_
    refine e_geti (j := 3) 129 fl_9_28 dX9_step_126 at_883 (by decide) rfl rfl (fun r126 => ?_)
    simp (disch := omega) only [pt_r5, pt_w5, pt_r3, pt_w3, pt_r4, pt_w4, pt_r6, pt_w6, pt_r2, pt_r1, pt_rb, hn8] at r126 ⊢
    refine e_aload_n (i := 0) 130 dX9_step_129 rfl rfl rfl ?_
    refine e_geti (j := 5) 133 fl_9_34 dX9_step_130 at_883 (by decide) rfl rfl (fun r130 => ?_)
    simp (disch := omega) only [pt_r5, pt_w5, pt_r3, pt_w3, pt_r4, pt_w4, pt_r6, pt_w6, pt_r2, pt_r1, pt_rb, hn8] at r130 ⊢
    refine e_icmp_le 136 142 dX9_step_133 (by omega) (by omega) (by decide) rfl (fun b133 => ?_) (fun b133 => ?_)
    · omega
    · first
       | (exfalso; omega)
       | (skip
          refine e_aload_n (i := 0) 137 dX9_step_136 rfl rfl rfl ?_
          refine e_iconst 138 dX9_step_137 rfl ?_
          refine e_puti (j := 4) 141 fl_9_40 dX9_step_138 at_883 rfl rfl rfl (by decide) rfl ?_
          refine e_vret dX9_step_141 ?_
          have hB : tBe t n q = tSm t (n - q).toNat q := by
            unfold tBe
            rw [if_neg (by omega), if_pos (by omega)]
          have hS : cSo t n q = 2 := by
            unfold cSo
            rw [if_neg (by omega), if_pos (by omega)]
          have hV : cVa t n q = 0 := by
            unfold cVa
            rw [if_neg (by omega), if_pos (by omega)]
          rw [hS, hV, hB] at h
          simp (disch := omega) only [pt_r5, pt_w5, pt_r3, pt_w3, pt_r4, pt_w4, pt_r6, pt_w6, pt_r2, pt_r1, pt_rb, hn8]
          exact h)
  have e1 : tSm t (n - q).toNat q = q := by
    rw [ef, tSm, if_neg c2]
  rw [e1]
  by_cases c3 : 48 ≤ t q ∧ t q ≤ 57
  case pos =>
    have e2 : q + 1 ≤ tDg t (n - q).toNat q := by
      have u := tDg_rng (t := t) ((n - q).toNat - 1) (q + 1)
      rw [ef, tDg, if_pos c3]
      exact u.1
    refine e_aload_n (i := 0) 126 dX9_step_125 rfl rfl rfl ?_
    refine e_geti (j := 3) 129 fl_9_28 dX9_step_126 at_883 (by decide) rfl rfl (fun r126 => ?_)
    simp (disch := omega) only [pt_r5, pt_w5, pt_r3, pt_w3, pt_r4, pt_w4, pt_r6, pt_w6, pt_r2, pt_r1, pt_rb, hn8] at r126 ⊢
    refine e_aload_n (i := 0) 130 dX9_step_129 rfl rfl rfl ?_
    refine e_geti (j := 5) 133 fl_9_34 dX9_step_130 at_883 (by decide) rfl rfl (fun r130 => ?_)
    simp (disch := omega) only [pt_r5, pt_w5, pt_r3, pt_w3, pt_r4, pt_w4, pt_r6, pt_w6, pt_r2, pt_r1, pt_rb, hn8] at r130 ⊢
    refine e_icmp_le 136 142 dX9_step_133 (by omega) (by omega) (by decide) rfl (fun b133 => ?_) (fun b133 => ?_)
    · first
       | (exfalso; omega)
       | (skip
          have h00 : (0 : Int) = (if q - q ≤ 3 then tNum t q (q - q) else 0) := by
            rw [if_pos (by omega), tNum, if_pos (by omega)]
          rw [h00]
          refine cs_d hT (by omega) (n - q).toNat q (by omega) (by omega) ?_
          refine e_aload_n (i := 0) 236 dX9_step_235 rfl rfl rfl ?_
          refine e_geti (j := 3) 239 fl_9_28 dX9_step_236 at_883 (by decide) rfl rfl (fun r236 => ?_)
          simp (disch := omega) only [pt_r5, pt_w5, pt_r3, pt_w3, pt_r4, pt_w4, pt_r6, pt_w6, pt_r2, pt_r1, pt_rb, hn8] at r236 ⊢
          refine e_aload_n (i := 0) 240 dX9_step_239 rfl rfl rfl ?_
          refine e_geti (j := 5) 243 fl_9_34 dX9_step_240 at_883 (by decide) rfl rfl (fun r240 => ?_)
          simp (disch := omega) only [pt_r5, pt_w5, pt_r3, pt_w3, pt_r4, pt_w4, pt_r6, pt_w6, pt_r2, pt_r1, pt_rb, hn8] at r240 ⊢
          refine e_icmp_le 246 271 dX9_step_243 (by omega) (by omega) (by decide) rfl (fun b243 => ?_) (fun b243 => ?_)
          · omega
          · first
             | (exfalso; omega)
             | (skip
                refine e_aload_n (i := 0) 247 dX9_step_246 rfl rfl rfl ?_
                refine e_aload_n (i := 0) 248 dX9_step_247 rfl rfl rfl ?_
                refine e_geti (j := 3) 251 fl_9_28 dX9_step_248 at_883 (by decide) rfl rfl (fun r248 => ?_)
                simp (disch := omega) only [pt_r5, pt_w5, pt_r3, pt_w3, pt_r4, pt_w4, pt_r6, pt_w6, pt_r2, pt_r1, pt_rb, hn8] at r248 ⊢
                refine e_aload_n (i := 0) 252 dX9_step_251 rfl rfl rfl ?_
                refine e_geti (j := 5) 255 fl_9_34 dX9_step_252 at_883 (by decide) rfl rfl (fun r252 => ?_)
                simp (disch := omega) only [pt_r5, pt_w5, pt_r3, pt_w3, pt_r4, pt_w4, pt_r6, pt_w6, pt_r2, pt_r1, pt_rb, hn8] at r252 ⊢
                refine e_isub 256 dX9_step_255 rfl ?_
                refine e_iconst 257 dX9_step_256 rfl ?_
                refine e_icmp_gt 260 264 dX9_step_257 (by omega) (by decide) (by decide) rfl (fun b257 => ?_) (fun b257 => ?_)
                · first
                   | (exfalso; omega)
                   | (skip
                      refine e_iconst 265 dX9_step_264 rfl ?_
                      refine e_puti (j := 4) 268 fl_9_40 dX9_step_265 at_883 rfl rfl rfl (by decide) rfl ?_
                      refine e_goto 349 dX9_step_268 (by decide) ?_
                      refine e_vret dX9_step_349 ?_
                      first
                        | (exfalso; omega)
                        | (have hB : tBe t n q = tDg t (n - q).toNat q := by
                             unfold tBe
                             rw [if_neg (by omega), if_neg (by omega), if_pos (by omega)]
                           have hS : cSo t n q = 1 := by
                             unfold cSo
                             rw [if_neg (by omega), if_neg (by omega), if_pos (by omega), hB, if_neg (by omega)]
                           have hV : cVa t n q = (if tDg t (n - q).toNat q - q ≤ 3 then tNum t q (tDg t (n - q).toNat q - q) else 0) := by
                             unfold cVa
                             rw [if_neg (by omega), if_neg (by omega), if_pos (by omega), hB]
                           rw [hS, hV, hB] at h
                           simp (disch := omega) only [pt_r5, pt_w5, pt_r3, pt_w3, pt_r4, pt_w4, pt_r6, pt_w6, pt_r2, pt_r1, pt_rb, hn8]
                           exact h))
                · first
                   | (exfalso; omega)
                   | (skip
                      refine e_iconst 261 dX9_step_260 rfl ?_
                      refine e_goto 265 dX9_step_261 (by decide) ?_
                      refine e_puti (j := 4) 268 fl_9_40 dX9_step_265 at_883 rfl rfl rfl (by decide) rfl ?_
                      refine e_goto 349 dX9_step_268 (by decide) ?_
                      refine e_vret dX9_step_349 ?_
                      first
                        | (exfalso; omega)
                        | (have hB : tBe t n q = tDg t (n - q).toNat q := by
                             unfold tBe
                             rw [if_neg (by omega), if_neg (by omega), if_pos (by omega)]
                           have hS : cSo t n q = 3 := by
                             unfold cSo
                             rw [if_neg (by omega), if_neg (by omega), if_pos (by omega), hB, if_pos (by omega)]
                           have hV : cVa t n q = (if tDg t (n - q).toNat q - q ≤ 3 then tNum t q (tDg t (n - q).toNat q - q) else 0) := by
                             unfold cVa
                             rw [if_neg (by omega), if_neg (by omega), if_pos (by omega), hB]
                           rw [hS, hV, hB] at h
                           simp (disch := omega) only [pt_r5, pt_w5, pt_r3, pt_w3, pt_r4, pt_w4, pt_r6, pt_w6, pt_r2, pt_r1, pt_rb, hn8]
                           exact h))))
    · omega
  have e2 : tDg t (n - q).toNat q = q := by
    rw [ef, tDg, if_neg c3]
  refine e_aload_n (i := 0) 126 dX9_step_125 rfl rfl rfl ?_
  refine e_geti (j := 3) 129 fl_9_28 dX9_step_126 at_883 (by decide) rfl rfl (fun r126 => ?_)
  simp (disch := omega) only [pt_r5, pt_w5, pt_r3, pt_w3, pt_r4, pt_w4, pt_r6, pt_w6, pt_r2, pt_r1, pt_rb, hn8] at r126 ⊢
  refine e_aload_n (i := 0) 130 dX9_step_129 rfl rfl rfl ?_
  refine e_geti (j := 5) 133 fl_9_34 dX9_step_130 at_883 (by decide) rfl rfl (fun r130 => ?_)
  simp (disch := omega) only [pt_r5, pt_w5, pt_r3, pt_w3, pt_r4, pt_w4, pt_r6, pt_w6, pt_r2, pt_r1, pt_rb, hn8] at r130 ⊢
  refine e_icmp_le 136 142 dX9_step_133 (by omega) (by omega) (by decide) rfl (fun b133 => ?_) (fun b133 => ?_)
  · first
     | (exfalso; omega)
     | (skip
        have h00 : (0 : Int) = (if q - q ≤ 3 then tNum t q (q - q) else 0) := by
          rw [if_pos (by omega), tNum, if_pos (by omega)]
        rw [h00]
        refine cs_d hT (by omega) (n - q).toNat q (by omega) (by omega) ?_
        rw [e2]
        rw [show (if q - q ≤ 3 then tNum t q (q - q) else 0) = 0 from by rw [if_pos (by omega), tNum, if_pos (by omega)]]
        refine e_aload_n (i := 0) 236 dX9_step_235 rfl rfl rfl ?_
        refine e_geti (j := 3) 239 fl_9_28 dX9_step_236 at_883 (by decide) rfl rfl (fun r236 => ?_)
        simp (disch := omega) only [pt_r5, pt_w5, pt_r3, pt_w3, pt_r4, pt_w4, pt_r6, pt_w6, pt_r2, pt_r1, pt_rb, hn8] at r236 ⊢
        refine e_aload_n (i := 0) 240 dX9_step_239 rfl rfl rfl ?_
        refine e_geti (j := 5) 243 fl_9_34 dX9_step_240 at_883 (by decide) rfl rfl (fun r240 => ?_)
        simp (disch := omega) only [pt_r5, pt_w5, pt_r3, pt_w3, pt_r4, pt_w4, pt_r6, pt_w6, pt_r2, pt_r1, pt_rb, hn8] at r240 ⊢
        refine e_icmp_le 246 271 dX9_step_243 (by omega) (by omega) (by decide) rfl (fun b243 => ?_) (fun b243 => ?_)
        · first
           | (exfalso; omega)
           | (skip
              refine e_aload_n (i := 0) 272 dX9_step_271 rfl rfl rfl ?_
              refine e_geti (j := 5) 275 fl_9_34 dX9_step_272 at_883 (by decide) rfl rfl (fun r272 => ?_)
              simp (disch := omega) only [pt_r5, pt_w5, pt_r3, pt_w3, pt_r4, pt_w4, pt_r6, pt_w6, pt_r2, pt_r1, pt_rb, hn8] at r272 ⊢
              refine e_aload_n (i := 0) 276 dX9_step_275 rfl rfl rfl ?_
              refine e_geti (j := 2) 279 fl_9_25 dX9_step_276 at_883 (by decide) rfl rfl (fun r276 => ?_)
              simp (disch := omega) only [pt_r5, pt_w5, pt_r3, pt_w3, pt_r4, pt_w4, pt_r6, pt_w6, pt_r2, pt_r1, pt_rb, hn8] at r276 ⊢
              refine e_icmp_lt 282 290 dX9_step_279 (by omega) (by omega) (by decide) rfl (fun b279 => ?_) (fun b279 => ?_)
              · first
                 | (exfalso; omega)
                 | (skip
                    refine e_aload_n (i := 0) 291 dX9_step_290 rfl rfl rfl ?_
                    refine e_aload_n (i := 0) 292 dX9_step_291 rfl rfl rfl ?_
                    refine e_getr (j := 0) 295 fl_9_9 dX9_step_292 at_883 rfl rfl tp_883_0 rfl ?_
                    refine e_aload_n (i := 0) 296 dX9_step_295 rfl rfl rfl ?_
                    refine e_geti (j := 5) 299 fl_9_34 dX9_step_296 at_883 (by decide) rfl rfl (fun r296 => ?_)
                    simp (disch := omega) only [pt_r5, pt_w5, pt_r3, pt_w3, pt_r4, pt_w4, pt_r6, pt_w6, pt_r2, pt_r1, pt_rb, hn8] at r296 ⊢
                    refine e_bald 300 dX9_step_299 ar_884 (by omega) (by omega) rfl (fun r299 => ?_)
                    simp (disch := omega) only [pt_r5, pt_w5, pt_r3, pt_w3, pt_r4, pt_w4, pt_r6, pt_w6, pt_r2, pt_r1, pt_rb, hn8] at r299 ⊢
                    refine e_puti (j := 6) 303 fl_9_37 dX9_step_300 at_883 rfl rfl rfl (by omega) rfl ?_
                    refine e_aload_n (i := 0) 304 dX9_step_303 rfl rfl rfl ?_
                    refine e_aload_n (i := 0) 305 dX9_step_304 rfl rfl rfl ?_
                    refine e_geti (j := 6) 308 fl_9_37 dX9_step_305 at_883 (by decide) rfl rfl (fun r305 => ?_)
                    simp (disch := omega) only [pt_r5, pt_w5, pt_r3, pt_w3, pt_r4, pt_w4, pt_r6, pt_w6, pt_r2, pt_r1, pt_rb, hn8] at r305 ⊢
                    refine e_bipush 310 dX9_step_308 (by decide) rfl ?_
                    refine e_icmp_eq 313 331 dX9_step_310 (by omega) (by decide) (by decide) rfl (fun b310 => ?_) (fun b310 => ?_)
                    · first
                       | (exfalso; omega)
                       | (skip
                          refine e_iconst 332 dX9_step_331 rfl ?_
                          refine e_goto 336 dX9_step_332 (by decide) ?_
                          refine e_puti (j := 4) 339 fl_9_40 dX9_step_336 at_883 rfl rfl rfl (by decide) rfl ?_
                          refine e_aload_n (i := 0) 340 dX9_step_339 rfl rfl rfl ?_
                          refine e_dup 341 dX9_step_340 rfl rfl ?_
                          refine e_geti (j := 3) 344 fl_9_28 dX9_step_341 at_883 (by decide) rfl rfl (fun r341 => ?_)
                          simp (disch := omega) only [pt_r5, pt_w5, pt_r3, pt_w3, pt_r4, pt_w4, pt_r6, pt_w6, pt_r2, pt_r1, pt_rb, hn8] at r341 ⊢
                          refine e_iconst 345 dX9_step_344 rfl ?_
                          refine e_iadd 346 dX9_step_345 rfl ?_
                          refine e_puti (j := 3) 349 fl_9_28 dX9_step_346 at_883 rfl rfl rfl (by omega) rfl ?_
                          refine e_vret dX9_step_349 ?_
                          first
                            | (exfalso; omega)
                            | (have hB : tBe t n q = q + 1 := by
                                 unfold tBe
                                 rw [if_neg (by omega), if_neg (by omega), if_neg (by omega)]
                               have hS : cSo t n q = 4 := by
                                 unfold cSo
                                 rw [if_neg (by omega), if_neg (by omega), if_neg (by omega), if_pos (by omega)]
                               have hV : cVa t n q = w8 (t q) := by
                                 unfold cVa
                                 rw [if_neg (by omega), if_neg (by omega), if_neg (by omega)]
                               rw [hS, hV, hB, ← hb9] at h
                               (try simp (disch := omega) only [pt_r5, pt_w5, pt_r3, pt_w3, pt_r4, pt_w4, pt_r6, pt_w6, pt_r2, pt_r1, pt_rb, hn8])
                               exact h))
                    · first
                       | (exfalso; omega)
                       | (skip
                          refine e_aload_n (i := 0) 314 dX9_step_313 rfl rfl rfl ?_
                          refine e_geti (j := 6) 317 fl_9_37 dX9_step_314 at_883 (by decide) rfl rfl (fun r314 => ?_)
                          simp (disch := omega) only [pt_r5, pt_w5, pt_r3, pt_w3, pt_r4, pt_w4, pt_r6, pt_w6, pt_r2, pt_r1, pt_rb, hn8] at r314 ⊢
                          refine e_bipush 319 dX9_step_317 (by decide) rfl ?_
                          refine e_icmp_eq 322 331 dX9_step_319 (by omega) (by decide) (by decide) rfl (fun b319 => ?_) (fun b319 => ?_)
                          · first
                             | (exfalso; omega)
                             | (skip
                                refine e_iconst 332 dX9_step_331 rfl ?_
                                refine e_goto 336 dX9_step_332 (by decide) ?_
                                refine e_puti (j := 4) 339 fl_9_40 dX9_step_336 at_883 rfl rfl rfl (by decide) rfl ?_
                                refine e_aload_n (i := 0) 340 dX9_step_339 rfl rfl rfl ?_
                                refine e_dup 341 dX9_step_340 rfl rfl ?_
                                refine e_geti (j := 3) 344 fl_9_28 dX9_step_341 at_883 (by decide) rfl rfl (fun r341 => ?_)
                                simp (disch := omega) only [pt_r5, pt_w5, pt_r3, pt_w3, pt_r4, pt_w4, pt_r6, pt_w6, pt_r2, pt_r1, pt_rb, hn8] at r341 ⊢
                                refine e_iconst 345 dX9_step_344 rfl ?_
                                refine e_iadd 346 dX9_step_345 rfl ?_
                                refine e_puti (j := 3) 349 fl_9_28 dX9_step_346 at_883 rfl rfl rfl (by omega) rfl ?_
                                refine e_vret dX9_step_349 ?_
                                first
                                  | (exfalso; omega)
                                  | (have hB : tBe t n q = q + 1 := by
                                       unfold tBe
                                       rw [if_neg (by omega), if_neg (by omega), if_neg (by omega)]
                                     have hS : cSo t n q = 4 := by
                                       unfold cSo
                                       rw [if_neg (by omega), if_neg (by omega), if_neg (by omega), if_pos (by omega)]
                                     have hV : cVa t n q = w8 (t q) := by
                                       unfold cVa
                                       rw [if_neg (by omega), if_neg (by omega), if_neg (by omega)]
                                     rw [hS, hV, hB, ← hb9] at h
                                     (try simp (disch := omega) only [pt_r5, pt_w5, pt_r3, pt_w3, pt_r4, pt_w4, pt_r6, pt_w6, pt_r2, pt_r1, pt_rb, hn8])
                                     exact h))
                          · first
                             | (exfalso; omega)
                             | (skip
                                refine e_aload_n (i := 0) 323 dX9_step_322 rfl rfl rfl ?_
                                refine e_geti (j := 6) 326 fl_9_37 dX9_step_323 at_883 (by decide) rfl rfl (fun r323 => ?_)
                                simp (disch := omega) only [pt_r5, pt_w5, pt_r3, pt_w3, pt_r4, pt_w4, pt_r6, pt_w6, pt_r2, pt_r1, pt_rb, hn8] at r323 ⊢
                                refine e_bipush 328 dX9_step_326 (by decide) rfl ?_
                                refine e_icmp_ne 331 335 dX9_step_328 (by omega) (by decide) (by decide) rfl (fun b328 => ?_) (fun b328 => ?_)
                                · first
                                   | (exfalso; omega)
                                   | (skip
                                      refine e_iconst 336 dX9_step_335 rfl ?_
                                      refine e_puti (j := 4) 339 fl_9_40 dX9_step_336 at_883 rfl rfl rfl (by decide) rfl ?_
                                      refine e_aload_n (i := 0) 340 dX9_step_339 rfl rfl rfl ?_
                                      refine e_dup 341 dX9_step_340 rfl rfl ?_
                                      refine e_geti (j := 3) 344 fl_9_28 dX9_step_341 at_883 (by decide) rfl rfl (fun r341 => ?_)
                                      simp (disch := omega) only [pt_r5, pt_w5, pt_r3, pt_w3, pt_r4, pt_w4, pt_r6, pt_w6, pt_r2, pt_r1, pt_rb, hn8] at r341 ⊢
                                      refine e_iconst 345 dX9_step_344 rfl ?_
                                      refine e_iadd 346 dX9_step_345 rfl ?_
                                      refine e_puti (j := 3) 349 fl_9_28 dX9_step_346 at_883 rfl rfl rfl (by omega) rfl ?_
                                      refine e_vret dX9_step_349 ?_
                                      first
                                        | (exfalso; omega)
                                        | (have hB : tBe t n q = q + 1 := by
                                             unfold tBe
                                             rw [if_neg (by omega), if_neg (by omega), if_neg (by omega)]
                                           have hS : cSo t n q = 1 := by
                                             unfold cSo
                                             rw [if_neg (by omega), if_neg (by omega), if_neg (by omega), if_neg (by omega)]
                                           have hV : cVa t n q = w8 (t q) := by
                                             unfold cVa
                                             rw [if_neg (by omega), if_neg (by omega), if_neg (by omega)]
                                           rw [hS, hV, hB, ← hb9] at h
                                           (try simp (disch := omega) only [pt_r5, pt_w5, pt_r3, pt_w3, pt_r4, pt_w4, pt_r6, pt_w6, pt_r2, pt_r1, pt_rb, hn8])
                                           exact h))
                                · first
                                   | (exfalso; omega)
                                   | (skip
                                      refine e_iconst 332 dX9_step_331 rfl ?_
                                      refine e_goto 336 dX9_step_332 (by decide) ?_
                                      refine e_puti (j := 4) 339 fl_9_40 dX9_step_336 at_883 rfl rfl rfl (by decide) rfl ?_
                                      refine e_aload_n (i := 0) 340 dX9_step_339 rfl rfl rfl ?_
                                      refine e_dup 341 dX9_step_340 rfl rfl ?_
                                      refine e_geti (j := 3) 344 fl_9_28 dX9_step_341 at_883 (by decide) rfl rfl (fun r341 => ?_)
                                      simp (disch := omega) only [pt_r5, pt_w5, pt_r3, pt_w3, pt_r4, pt_w4, pt_r6, pt_w6, pt_r2, pt_r1, pt_rb, hn8] at r341 ⊢
                                      refine e_iconst 345 dX9_step_344 rfl ?_
                                      refine e_iadd 346 dX9_step_345 rfl ?_
                                      refine e_puti (j := 3) 349 fl_9_28 dX9_step_346 at_883 rfl rfl rfl (by omega) rfl ?_
                                      refine e_vret dX9_step_349 ?_
                                      first
                                        | (exfalso; omega)
                                        | (have hB : tBe t n q = q + 1 := by
                                             unfold tBe
                                             rw [if_neg (by omega), if_neg (by omega), if_neg (by omega)]
                                           have hS : cSo t n q = 4 := by
                                             unfold cSo
                                             rw [if_neg (by omega), if_neg (by omega), if_neg (by omega), if_pos (by omega)]
                                           have hV : cVa t n q = w8 (t q) := by
                                             unfold cVa
                                             rw [if_neg (by omega), if_neg (by omega), if_neg (by omega)]
                                           rw [hS, hV, hB, ← hb9] at h
                                           (try simp (disch := omega) only [pt_r5, pt_w5, pt_r3, pt_w3, pt_r4, pt_w4, pt_r6, pt_w6, pt_r2, pt_r1, pt_rb, hn8])
                                           exact h)))))
              · first
                 | (exfalso; omega)
                 | (skip
                    refine e_aload_n (i := 0) 283 dX9_step_282 rfl rfl rfl ?_
                    refine e_iconst 284 dX9_step_283 rfl ?_
                    refine e_puti (j := 4) 287 fl_9_40 dX9_step_284 at_883 rfl rfl rfl (by decide) rfl ?_
                    refine e_goto 349 dX9_step_287 (by decide) ?_
                    refine e_vret dX9_step_349 ?_
                    first
                      | (exfalso; omega)
                      | (have hB : tBe t n q = q := by
                           unfold tBe
                           rw [if_pos (by omega)]
                         have hS : cSo t n q = 0 := by
                           unfold cSo
                           rw [if_pos (by omega)]
                         have hV : cVa t n q = 0 := by
                           unfold cVa
                           rw [if_pos (by omega)]
                         rw [hS, hV, hB] at h
                         (try simp (disch := omega) only [pt_r5, pt_w5, pt_r3, pt_w3, pt_r4, pt_w4, pt_r6, pt_w6, pt_r2, pt_r1, pt_rb, hn8])
                         exact h)))
        · omega)
  · omega

