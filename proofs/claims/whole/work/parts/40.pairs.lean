/-! A PLEDGE MORE -/
def cBegin (M : jM) (n k p l w : Int) : jM := jset (jset (jset (jset (jset (jset (jset (jset (jset (jset (jset (jset (jset M (84 + n) 0 k) (84 + n) 1 p) (84 + n) 2 l) (84 + n) 3 w) (84 + n) 4 w) (84 + n) 5 (-1)) (84 + n) 6 0) (84 + n) 7 0) (84 + n) 8 (-1)) (84 + n) 9 (-1)) (84 + n) 10 0) (84 + n) 11 0) (84 + n) 12 0
def rBegin (M : jM) (n k p l w : Int) : jM := jset (jset (jset (jset (jset (jset (jset (jset (jset (jset (jset (jset M 929 (710 + n) k) 929 (770 + n) p) 929 (830 + n) l) 929 (890 + n) w) 929 (1130 + n) w) 929 (950 + n) (-1)) 929 (1010 + n) 0) 929 (1070 + n) 0) 929 (1190 + n) (-1)) 929 (1250 + n) 0) 929 (3775 + n) 0) 929 (3835 + n) 0
theorem c_begin {n k p l w : Int} {M : jM} {Q : Int → jM → Prop} (hk0 : -2147483648 ≤ k ∧ k ≤ 2147483647) (hp0 : -2147483648 ≤ p ∧ p ≤ 2147483647) (hl0 : -2147483648 ≤ l ∧ l ≤ 2147483647) (hw0 : -2147483648 ≤ w ∧ w ≤ 2147483647) (hn : 0 ≤ n ∧ n < 60) (h : Q 0 (cBegin M n k p l w)) : jCt yX5_begin cX5_begin 5 none 1 [jR (84 + n), jI k, jI p, jI l, jI w] M Q := by
  refine jCt_of mt_yX5_begin (Nat.le_of_ble_eq_true rfl) (fun X => ?_)
  refine e_aload_n (i := 0) 1 dX5_begin_0 rfl rfl rfl ?_
  refine e_iload_n (i := 1) 2 dX5_begin_1 rfl rfl rfl ?_
  refine e_puti (j := 0) 5 fl_5_9 dX5_begin_2 (at_pledge (by omega) (by omega)) rfl rfl rfl (by omega) rfl ?_
  refine e_aload_n (i := 0) 6 dX5_begin_5 rfl rfl rfl ?_
  refine e_iload_n (i := 2) 7 dX5_begin_6 rfl rfl rfl ?_
  refine e_puti (j := 1) 10 fl_5_15 dX5_begin_7 (at_pledge (by omega) (by omega)) rfl rfl rfl (by omega) rfl ?_
  refine e_aload_n (i := 0) 11 dX5_begin_10 rfl rfl rfl ?_
  refine e_iload_n (i := 3) 12 dX5_begin_11 rfl rfl rfl ?_
  refine e_puti (j := 2) 15 fl_5_18 dX5_begin_12 (at_pledge (by omega) (by omega)) rfl rfl rfl (by omega) rfl ?_
  refine e_aload_n (i := 0) 16 dX5_begin_15 rfl rfl rfl ?_
  refine e_iload 18 dX5_begin_16 rfl rfl ?_
  refine e_puti (j := 3) 21 fl_5_21 dX5_begin_18 (at_pledge (by omega) (by omega)) rfl rfl rfl (by omega) rfl ?_
  refine e_aload_n (i := 0) 22 dX5_begin_21 rfl rfl rfl ?_
  refine e_iload 24 dX5_begin_22 rfl rfl ?_
  refine e_puti (j := 4) 27 fl_5_24 dX5_begin_24 (at_pledge (by omega) (by omega)) rfl rfl rfl (by omega) rfl ?_
  refine e_aload_n (i := 0) 28 dX5_begin_27 rfl rfl rfl ?_
  refine e_iconst 29 dX5_begin_28 rfl ?_
  refine e_puti (j := 5) 32 fl_5_27 dX5_begin_29 (at_pledge (by omega) (by omega)) rfl rfl rfl (by decide) rfl ?_
  refine e_aload_n (i := 0) 33 dX5_begin_32 rfl rfl rfl ?_
  refine e_iconst 34 dX5_begin_33 rfl ?_
  refine e_puti (j := 6) 37 fl_5_30 dX5_begin_34 (at_pledge (by omega) (by omega)) rfl rfl rfl (by decide) rfl ?_
  refine e_aload_n (i := 0) 38 dX5_begin_37 rfl rfl rfl ?_
  refine e_iconst 39 dX5_begin_38 rfl ?_
  refine e_puti (j := 7) 42 fl_5_33 dX5_begin_39 (at_pledge (by omega) (by omega)) rfl rfl rfl (by decide) rfl ?_
  refine e_aload_n (i := 0) 43 dX5_begin_42 rfl rfl rfl ?_
  refine e_iconst 44 dX5_begin_43 rfl ?_
  refine e_puti (j := 8) 47 fl_5_36 dX5_begin_44 (at_pledge (by omega) (by omega)) rfl rfl rfl (by decide) rfl ?_
  refine e_aload_n (i := 0) 48 dX5_begin_47 rfl rfl rfl ?_
  refine e_iconst 49 dX5_begin_48 rfl ?_
  refine e_puti (j := 9) 52 fl_5_39 dX5_begin_49 (at_pledge (by omega) (by omega)) rfl rfl rfl (by decide) rfl ?_
  refine e_aload_n (i := 0) 53 dX5_begin_52 rfl rfl rfl ?_
  refine e_iconst 54 dX5_begin_53 rfl ?_
  refine e_puti (j := 10) 57 fl_5_42 dX5_begin_54 (at_pledge (by omega) (by omega)) rfl rfl rfl (by decide) rfl ?_
  refine e_aload_n (i := 0) 58 dX5_begin_57 rfl rfl rfl ?_
  refine e_iconst 59 dX5_begin_58 rfl ?_
  refine e_puti (j := 11) 62 fl_5_45 dX5_begin_59 (at_pledge (by omega) (by omega)) rfl rfl rfl (by decide) rfl ?_
  refine e_aload_n (i := 0) 63 dX5_begin_62 rfl rfl rfl ?_
  refine e_iconst 64 dX5_begin_63 rfl ?_
  refine e_puti (j := 12) 67 fl_5_48 dX5_begin_64 (at_pledge (by omega) (by omega)) rfl rfl rfl (by decide) rfl ?_
  refine e_vret dX5_begin_67 ?_
  exact h

theorem step_begin {M : jM} (hI : Inv M) {k p l : Int} (hk : 0 ≤ k ∧ k < M 929 582) (hp : 0 ≤ p ∧ p < M 929 643) (hl : 1 ≤ l ∧ l ≤ 999) (hf : M 929 709 < 60) : Inv (jset (rBegin (jset (cBegin M (M 929 709) k p l (M 929 708)) 1 10 (M 929 709 + 1)) (M 929 709) k p l (M 929 708)) 929 709 (M 929 709 + 1)) := by
  have hC := hI.cr
  have hn := hC.cnt
  have hg := hC.rng
  unfold rBegin cBegin
  refine hI.live ?_ ?_ ?_
  · repeat (first | exact Live.rf | refine Live.c ?_ (by omega) | refine Live.r ?_ (by omega) | refine Live.s ?_ (by omega))
  · refine ⟨?_, ?_, ?_, ?_, ?_, ?_, ?_, ?_, ?_, ?_, ?_⟩
    · have h := hI.2.1.1
      unfold RCnt at h ⊢
      simp (disch := omega) only [jset_k, jset_j, jset_same, true_and, and_true]
      omega
    · exact hI.2.1.2.1.fr (fun i a b => by simp (disch := omega) only [jset_k, jset_j, jset_same, true_and, and_true])
    · exact hI.2.1.2.2.1.fr (fun i a b => by simp (disch := omega) only [jset_k, jset_j, jset_same, true_and, and_true])
    · exact hI.2.1.2.2.2.1.fr (by omega) (fun i a b => by simp (disch := omega) only [jset_k, jset_j, jset_same, true_and, and_true])
    · exact hI.2.1.2.2.2.2.1.fr (by omega) (fun i a b => by simp (disch := omega) only [jset_k, jset_j, jset_same, true_and, and_true]) (fun i a b => by simp (disch := omega) only [jset_k, jset_j, jset_same, true_and, and_true])
    · intro q h0 h1
      simp (disch := omega) only [jset_k, jset_j, jset_same, true_and, and_true] at h1
      by_cases e : q < M 929 709
      · have h := hI.2.1.2.2.2.2.2.1 q h0 e
        simp (disch := omega) only [jset_k, jset_j, jset_same, true_and, and_true]
        exact h
      · have e2 : q = M 929 709 := by omega
        subst e2
        simp (disch := omega) only [jset_k, jset_j, jset_same, true_and, and_true]
        exact ⟨by omega, by omega, by omega, by omega, by omega, ⟨by omega, by omega, fun _ => by first | trivial | rfl⟩, by omega, fun q => by first | trivial | omega⟩
    · intro q1 q2 h0 h1 h2
      simp (disch := omega) only [jset_k, jset_j, jset_same, true_and, and_true] at h2
      by_cases e : q2 < M 929 709
      · have h := hI.2.1.2.2.2.2.2.2.1 q1 q2 h0 h1 e
        simp (disch := omega) only [jset_k, jset_j, jset_same, true_and, and_true]
        exact h
      · have e2 : q2 = M 929 709 := by omega
        subst e2
        by_cases e3 : q1 < M 929 709
        · have h := hI.2.1.2.2.2.2.2.1 q1 h0 e3
          simp (disch := omega) only [jset_k, jset_j, jset_same, true_and, and_true]
          omega
        · have e4 : q1 = M 929 709 := by omega
          subst e4
          exact Int.le_refl _
    · exact hI.2.1.2.2.2.2.2.2.2.1.fr (by omega) (fun i a b => by simp (disch := omega) only [jset_k, jset_j, jset_same, true_and, and_true]) (fun i a b => by simp (disch := omega) only [jset_k, jset_j, jset_same, true_and, and_true]) (by simp (disch := omega) only [jset_k, jset_j, jset_same, true_and, and_true]; omega)
    · exact hI.2.1.2.2.2.2.2.2.2.2.1.fr (by omega) (fun i a b => by simp (disch := omega) only [jset_k, jset_j, jset_same, true_and, and_true])
    · exact hI.2.1.2.2.2.2.2.2.2.2.2.1.fr (fun i a b => by simp (disch := omega) only [jset_k, jset_j, jset_same, true_and, and_true])
    · exact hI.2.1.2.2.2.2.2.2.2.2.2.2.fr (fun i a b => by simp (disch := omega) only [jset_k, jset_j, jset_same, true_and, and_true])
  · refine ⟨?_, ?_, ?_, ?_, ?_, ?_, ?_, ?_, ?_, ?_, ?_, ?_⟩
    · have h := hC.cnt
      unfold CCnt cv
      simp (disch := omega) only [jset_k, jset_j, jset_same, true_and, and_true, Int.reduceAdd]
      first | omega | exact h
    · exact hI.2.2.1.2.1.fr hI.2.1.2.1 (by omega) (fun k j a b => by show _ = M (1 + k) j; unfold cv; simp (disch := omega) only [jset_k, jset_j, jset_same, true_and, and_true]) (fun i a b => by simp (disch := omega) only [jset_k, jset_j, jset_same, true_and, and_true])
    · exact hI.2.2.1.2.2.1.fr hI.2.1.2.2.1 (by omega) (fun k j a b => by show _ = M (1 + k) j; unfold cv; simp (disch := omega) only [jset_k, jset_j, jset_same, true_and, and_true]) (fun i a b => by simp (disch := omega) only [jset_k, jset_j, jset_same, true_and, and_true])
    · exact hI.2.2.1.2.2.2.1.fr (by omega) (fun k j a b => by show _ = M (1 + k) j; unfold cv; simp (disch := omega) only [jset_k, jset_j, jset_same, true_and, and_true]) (fun i a b => by simp (disch := omega) only [jset_k, jset_j, jset_same, true_and, and_true])
    · exact hI.2.2.1.2.2.2.2.1.fr (by omega) (fun k j a b => by show _ = M (1 + k) j; unfold cv; simp (disch := omega) only [jset_k, jset_j, jset_same, true_and, and_true]) (fun i a b => by simp (disch := omega) only [jset_k, jset_j, jset_same, true_and, and_true]) (fun i a b => by simp (disch := omega) only [jset_k, jset_j, jset_same, true_and, and_true])
    · intro q h0 h1
      simp (disch := omega) only [jset_k, jset_j, jset_same, true_and, and_true] at h1
      simp only [cv1, Int.reduceAdd]
      by_cases e : q < M 929 709
      · have h := hC.pl h0 e
        simp (disch := omega) only [jset_k, jset_j, jset_same, true_and, and_true]
        exact h
      · have e2 : q = M 929 709 := by omega
        subst e2
        simp (disch := omega) only [jset_k, jset_j, jset_same, true_and, and_true]
        repeat' (first | trivial | omega | refine ⟨?_, ?_⟩ | intro _)
    · exact hI.2.2.1.2.2.2.2.2.2.1.fr (by omega) (fun k j a b => by show _ = M (1 + k) j; unfold cv; simp (disch := omega) only [jset_k, jset_j, jset_same, true_and, and_true]) (fun i a b => by simp (disch := omega) only [jset_k, jset_j, jset_same, true_and, and_true]) (fun i a b => by simp (disch := omega) only [jset_k, jset_j, jset_same, true_and, and_true])
    · exact hI.2.2.1.2.2.2.2.2.2.2.1.fr (by omega) (fun k j a b => by show _ = M (1 + k) j; unfold cv; simp (disch := omega) only [jset_k, jset_j, jset_same, true_and, and_true]) (fun i a b => by simp (disch := omega) only [jset_k, jset_j, jset_same, true_and, and_true])
    · exact hI.2.2.1.2.2.2.2.2.2.2.2.1.fr (fun k j a b => by show _ = M (1 + k) j; unfold cv; simp (disch := omega) only [jset_k, jset_j, jset_same, true_and, and_true]) (fun i a b => by simp (disch := omega) only [jset_k, jset_j, jset_same, true_and, and_true])
    · exact hI.2.2.1.2.2.2.2.2.2.2.2.2.1.fr (fun k j a b => by show _ = M (1 + k) j; unfold cv; simp (disch := omega) only [jset_k, jset_j, jset_same, true_and, and_true]) (fun i a b => by simp (disch := omega) only [jset_k, jset_j, jset_same, true_and, and_true])
    · exact hI.2.2.1.2.2.2.2.2.2.2.2.2.2.1.fr (by omega) (fun k j a b => by show _ = M (1 + k) j; unfold cv; simp (disch := omega) only [jset_k, jset_j, jset_same, true_and, and_true]) (fun i a b => by simp (disch := omega) only [jset_k, jset_j, jset_same, true_and, and_true])
    · exact hI.2.2.1.2.2.2.2.2.2.2.2.2.2.2.fr hI.2.1.2.2.2.2.2.2.2.2.2.2 (fun k j a b => by show _ = M (1 + k) j; unfold cv; simp (disch := omega) only [jset_k, jset_j, jset_same, true_and, and_true]) (fun i a b => by simp (disch := omega) only [jset_k, jset_j, jset_same, true_and, and_true])
