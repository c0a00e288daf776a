/-! THE FIRST CELLS: the topology -/
def FN : jN := modelN (classN nN)
theorem ft_0 (j : Int) : FN 0 j = topo 0 j := by
  have hj : j = 0 ∨ j = 1 ∨ j = 2 ∨ j = 3 ∨ j = 4 ∨ j = 5 ∨ (j < 0 ∨ 6 ≤ j) := by omega
  rcases hj with hj | hj | hj | hj | hj | hj | hj
  · subst hj
    decide +kernel
  · subst hj
    decide +kernel
  · subst hj
    decide +kernel
  · subst hj
    decide +kernel
  · subst hj
    decide +kernel
  · subst hj
    decide +kernel
  · have e : jtp 0 j = -1 := by
      unfold jtp
      rw [if_pos (by decide)]
      unfold jtpO
      simp only [Int.reduceEq, if_false, if_true]
      rw [if_neg (by omega)]
    have e2 : topo 0 j = none := by
      unfold topo
      rw [e]
      rfl
    rw [e2]
    unfold FN modelN classN readerN plannerN tapeN rowN lawN looksN
    simp (disch := omega) only [jsetN_k, jsetN_j, shopN_k, jrA_k, jrA_out]
    rfl
theorem ft_294 (j : Int) : FN 294 j = topo 294 j := by
  have hj : j = 0 ∨ j = 1 ∨ (j < 0 ∨ 2 ≤ j) := by omega
  rcases hj with hj | hj | hj
  · subst hj
    decide +kernel
  · subst hj
    decide +kernel
  · have e : jtp 294 j = -1 := by
      unfold jtp
      rw [if_pos (by decide)]
      unfold jtpO
      simp only [Int.reduceEq, if_false, if_true]
      rw [if_neg (by omega)]
    have e2 : topo 294 j = none := by
      unfold topo
      rw [e]
      rfl
    rw [e2]
    unfold FN modelN classN readerN plannerN tapeN rowN lawN looksN
    simp (disch := omega) only [jsetN_k, jsetN_j, shopN_k, jrA_k, jrA_out]
    rfl
theorem ft_882 (j : Int) : FN 882 j = topo 882 j := by
  have hj : j = 0 ∨ j = 1 ∨ j = 2 ∨ j = 3 ∨ j = 4 ∨ j = 5 ∨ (j < 0 ∨ 6 ≤ j) := by omega
  rcases hj with hj | hj | hj | hj | hj | hj | hj
  · subst hj
    decide +kernel
  · subst hj
    decide +kernel
  · subst hj
    decide +kernel
  · subst hj
    decide +kernel
  · subst hj
    decide +kernel
  · subst hj
    decide +kernel
  · have e : jtp 882 j = -1 := by
      unfold jtp
      rw [if_pos (by decide)]
      unfold jtpO
      simp only [Int.reduceEq, if_false, if_true]
      rw [if_neg (by omega)]
    have e2 : topo 882 j = none := by
      unfold topo
      rw [e]
      rfl
    rw [e2]
    unfold FN modelN classN readerN plannerN tapeN rowN lawN looksN
    simp (disch := omega) only [jsetN_k, jsetN_j, shopN_k, jrA_k, jrA_out]
    rfl
theorem ft_883 (j : Int) : FN 883 j = topo 883 j := by
  have hj : j = 0 ∨ j = 1 ∨ j = 2 ∨ j = 3 ∨ j = 4 ∨ j = 5 ∨ j = 6 ∨ (j < 0 ∨ 7 ≤ j) := by omega
  rcases hj with hj | hj | hj | hj | hj | hj | hj | hj
  · subst hj
    decide +kernel
  · subst hj
    decide +kernel
  · subst hj
    decide +kernel
  · subst hj
    decide +kernel
  · subst hj
    decide +kernel
  · subst hj
    decide +kernel
  · subst hj
    decide +kernel
  · have e : jtp 883 j = -1 := by
      unfold jtp
      rw [if_pos (by decide)]
      unfold jtpO
      simp only [Int.reduceEq, if_false, if_true]
      rw [if_neg (by omega)]
    have e2 : topo 883 j = none := by
      unfold topo
      rw [e]
      rfl
    rw [e2]
    unfold FN modelN classN readerN plannerN tapeN rowN lawN looksN
    simp (disch := omega) only [jsetN_k, jsetN_j, shopN_k, jrA_k, jrA_out]
    rfl
theorem ft_885 (j : Int) : FN 885 j = topo 885 j := by
  have hj : j = 0 ∨ j = 1 ∨ j = 2 ∨ j = 3 ∨ j = 4 ∨ j = 5 ∨ (j < 0 ∨ 6 ≤ j) := by omega
  rcases hj with hj | hj | hj | hj | hj | hj | hj
  · subst hj
    decide +kernel
  · subst hj
    decide +kernel
  · subst hj
    decide +kernel
  · subst hj
    decide +kernel
  · subst hj
    decide +kernel
  · subst hj
    decide +kernel
  · have e : jtp 885 j = -1 := by
      unfold jtp
      rw [if_pos (by decide)]
      unfold jtpO
      simp only [Int.reduceEq, if_false, if_true]
      rw [if_neg (by omega)]
    have e2 : topo 885 j = none := by
      unfold topo
      rw [e]
      rfl
    rw [e2]
    unfold FN modelN classN readerN plannerN tapeN rowN lawN looksN
    simp (disch := omega) only [jsetN_k, jsetN_j, shopN_k, jrA_k, jrA_out]
    rfl
theorem ft_890 (j : Int) : FN 890 j = topo 890 j := by
  have hj : j = 0 ∨ j = 1 ∨ j = 2 ∨ j = 3 ∨ j = 4 ∨ (j < 0 ∨ 5 ≤ j) := by omega
  rcases hj with hj | hj | hj | hj | hj | hj
  · subst hj
    decide +kernel
  · subst hj
    decide +kernel
  · subst hj
    decide +kernel
  · subst hj
    decide +kernel
  · subst hj
    decide +kernel
  · have e : jtp 890 j = -1 := by
      unfold jtp
      rw [if_pos (by decide)]
      unfold jtpO
      simp only [Int.reduceEq, if_false, if_true]
      rw [if_neg (by omega)]
    have e2 : topo 890 j = none := by
      unfold topo
      rw [e]
      rfl
    rw [e2]
    unfold FN modelN classN readerN plannerN tapeN rowN lawN looksN
    simp (disch := omega) only [jsetN_k, jsetN_j, shopN_k, jrA_k, jrA_out]
    rfl
theorem ft_894 (j : Int) : FN 894 j = topo 894 j := by
  have hj : j = 0 ∨ j = 1 ∨ j = 2 ∨ j = 3 ∨ (j < 0 ∨ 4 ≤ j) := by omega
  rcases hj with hj | hj | hj | hj | hj
  · subst hj
    decide +kernel
  · subst hj
    decide +kernel
  · subst hj
    decide +kernel
  · subst hj
    decide +kernel
  · have e : jtp 894 j = -1 := by
      unfold jtp
      rw [if_pos (by decide)]
      unfold jtpO
      simp only [Int.reduceEq, if_false, if_true]
      rw [if_neg (by omega)]
    have e2 : topo 894 j = none := by
      unfold topo
      rw [e]
      rfl
    rw [e2]
    unfold FN modelN classN readerN plannerN tapeN rowN lawN looksN
    simp (disch := omega) only [jsetN_k, jsetN_j, shopN_k, jrA_k, jrA_out]
    rfl
theorem ft_895 (j : Int) : FN 895 j = topo 895 j := by
  have hj : j = 0 ∨ j = 1 ∨ j = 2 ∨ (j < 0 ∨ 3 ≤ j) := by omega
  rcases hj with hj | hj | hj | hj
  · subst hj
    decide +kernel
  · subst hj
    decide +kernel
  · subst hj
    decide +kernel
  · have e : jtp 895 j = -1 := by
      unfold jtp
      rw [if_pos (by decide)]
      unfold jtpO
      simp only [Int.reduceEq, if_false, if_true]
      rw [if_neg (by omega)]
    have e2 : topo 895 j = none := by
      unfold topo
      rw [e]
      rfl
    rw [e2]
    unfold FN modelN classN readerN plannerN tapeN rowN lawN looksN
    simp (disch := omega) only [jsetN_k, jsetN_j, shopN_k, jrA_k, jrA_out]
    rfl
theorem ft_897 (j : Int) : FN 897 j = topo 897 j := by
  have hj : j = 0 ∨ j = 1 ∨ j = 2 ∨ (j < 0 ∨ 3 ≤ j) := by omega
  rcases hj with hj | hj | hj | hj
  · subst hj
    decide +kernel
  · subst hj
    decide +kernel
  · subst hj
    decide +kernel
  · have e : jtp 897 j = -1 := by
      unfold jtp
      rw [if_pos (by decide)]
      unfold jtpO
      simp only [Int.reduceEq, if_false, if_true]
      rw [if_neg (by omega)]
    have e2 : topo 897 j = none := by
      unfold topo
      rw [e]
      rfl
    rw [e2]
    unfold FN modelN classN readerN plannerN tapeN rowN lawN looksN
    simp (disch := omega) only [jsetN_k, jsetN_j, shopN_k, jrA_k, jrA_out]
    rfl
theorem ft_899 (j : Int) : FN 899 j = topo 899 j := by
  have hj : j = 0 ∨ j = 1 ∨ j = 2 ∨ (j < 0 ∨ 3 ≤ j) := by omega
  rcases hj with hj | hj | hj | hj
  · subst hj
    decide +kernel
  · subst hj
    decide +kernel
  · subst hj
    decide +kernel
  · have e : jtp 899 j = -1 := by
      unfold jtp
      rw [if_pos (by decide)]
      unfold jtpO
      simp only [Int.reduceEq, if_false, if_true]
      rw [if_neg (by omega)]
    have e2 : topo 899 j = none := by
      unfold topo
      rw [e]
      rfl
    rw [e2]
    unfold FN modelN classN readerN plannerN tapeN rowN lawN looksN
    simp (disch := omega) only [jsetN_k, jsetN_j, shopN_k, jrA_k, jrA_out]
    rfl
theorem ft_901 (j : Int) : FN 901 j = topo 901 j := by
  have hj : j = 0 ∨ j = 1 ∨ j = 2 ∨ (j < 0 ∨ 3 ≤ j) := by omega
  rcases hj with hj | hj | hj | hj
  · subst hj
    decide +kernel
  · subst hj
    decide +kernel
  · subst hj
    decide +kernel
  · have e : jtp 901 j = -1 := by
      unfold jtp
      rw [if_pos (by decide)]
      unfold jtpO
      simp only [Int.reduceEq, if_false, if_true]
      rw [if_neg (by omega)]
    have e2 : topo 901 j = none := by
      unfold topo
      rw [e]
      rfl
    rw [e2]
    unfold FN modelN classN readerN plannerN tapeN rowN lawN looksN
    simp (disch := omega) only [jsetN_k, jsetN_j, shopN_k, jrA_k, jrA_out]
    rfl
theorem ft_903 (j : Int) : FN 903 j = topo 903 j := by
  have hj : j = 0 ∨ j = 1 ∨ j = 2 ∨ j = 3 ∨ j = 4 ∨ j = 5 ∨ j = 6 ∨ j = 7 ∨ j = 8 ∨ j = 9 ∨ j = 10 ∨ j = 11 ∨ j = 12 ∨ j = 13 ∨ (j < 0 ∨ 14 ≤ j) := by omega
  rcases hj with hj | hj | hj | hj | hj | hj | hj | hj | hj | hj | hj | hj | hj | hj | hj
  · subst hj
    decide +kernel
  · subst hj
    decide +kernel
  · subst hj
    decide +kernel
  · subst hj
    decide +kernel
  · subst hj
    decide +kernel
  · subst hj
    decide +kernel
  · subst hj
    decide +kernel
  · subst hj
    decide +kernel
  · subst hj
    decide +kernel
  · subst hj
    decide +kernel
  · subst hj
    decide +kernel
  · subst hj
    decide +kernel
  · subst hj
    decide +kernel
  · subst hj
    decide +kernel
  · have e : jtp 903 j = -1 := by
      unfold jtp
      rw [if_pos (by decide)]
      unfold jtpO
      simp only [Int.reduceEq, if_false, if_true]
      rw [if_neg (by omega)]
    have e2 : topo 903 j = none := by
      unfold topo
      rw [e]
      rfl
    rw [e2]
    unfold FN modelN classN readerN plannerN tapeN rowN lawN looksN
    simp (disch := omega) only [jsetN_k, jsetN_j, shopN_k, jrA_k, jrA_out]
    rfl
theorem ft_912 (j : Int) : FN 912 j = topo 912 j := by
  have hj : j = 0 ∨ j = 1 ∨ j = 2 ∨ j = 3 ∨ j = 4 ∨ j = 5 ∨ j = 6 ∨ j = 7 ∨ j = 8 ∨ j = 9 ∨ j = 10 ∨ (j < 0 ∨ 11 ≤ j) := by omega
  rcases hj with hj | hj | hj | hj | hj | hj | hj | hj | hj | hj | hj | hj
  · subst hj
    decide +kernel
  · subst hj
    decide +kernel
  · subst hj
    decide +kernel
  · subst hj
    decide +kernel
  · subst hj
    decide +kernel
  · subst hj
    decide +kernel
  · subst hj
    decide +kernel
  · subst hj
    decide +kernel
  · subst hj
    decide +kernel
  · subst hj
    decide +kernel
  · subst hj
    decide +kernel
  · have e : jtp 912 j = -1 := by
      unfold jtp
      rw [if_pos (by decide)]
      unfold jtpO
      simp only [Int.reduceEq, if_false, if_true]
      rw [if_neg (by omega)]
    have e2 : topo 912 j = none := by
      unfold topo
      rw [e]
      rfl
    rw [e2]
    unfold FN modelN classN readerN plannerN tapeN rowN lawN looksN
    simp (disch := omega) only [jsetN_k, jsetN_j, shopN_k, jrA_k, jrA_out]
    rfl
theorem ft_928 (j : Int) : FN 928 j = topo 928 j := by
  have hj : j = 0 ∨ j = 1 ∨ j = 2 ∨ j = 3 ∨ j = 4 ∨ j = 5 ∨ j = 6 ∨ j = 7 ∨ j = 8 ∨ j = 9 ∨ j = 10 ∨ j = 11 ∨ j = 12 ∨ j = 13 ∨ j = 14 ∨ j = 15 ∨ j = 16 ∨ j = 17 ∨ j = 18 ∨ j = 19 ∨ j = 20 ∨ j = 21 ∨ j = 22 ∨ j = 23 ∨ j = 24 ∨ j = 25 ∨ j = 26 ∨ j = 27 ∨ j = 28 ∨ j = 29 ∨ j = 30 ∨ j = 31 ∨ j = 32 ∨ j = 33 ∨ (j < 0 ∨ 34 ≤ j) := by omega
  rcases hj with hj | hj | hj | hj | hj | hj | hj | hj | hj | hj | hj | hj | hj | hj | hj | hj | hj | hj | hj | hj | hj | hj | hj | hj | hj | hj | hj | hj | hj | hj | hj | hj | hj | hj | hj
  · subst hj
    decide +kernel
  · subst hj
    decide +kernel
  · subst hj
    decide +kernel
  · subst hj
    decide +kernel
  · subst hj
    decide +kernel
  · subst hj
    decide +kernel
  · subst hj
    decide +kernel
  · subst hj
    decide +kernel
  · subst hj
    decide +kernel
  · subst hj
    decide +kernel
  · subst hj
    decide +kernel
  · subst hj
    decide +kernel
  · subst hj
    decide +kernel
  · subst hj
    decide +kernel
  · subst hj
    decide +kernel
  · subst hj
    decide +kernel
  · subst hj
    decide +kernel
  · subst hj
    decide +kernel
  · subst hj
    decide +kernel
  · subst hj
    decide +kernel
  · subst hj
    decide +kernel
  · subst hj
    decide +kernel
  · subst hj
    decide +kernel
  · subst hj
    decide +kernel
  · subst hj
    decide +kernel
  · subst hj
    decide +kernel
  · subst hj
    decide +kernel
  · subst hj
    decide +kernel
  · subst hj
    decide +kernel
  · subst hj
    decide +kernel
  · subst hj
    decide +kernel
  · subst hj
    decide +kernel
  · subst hj
    decide +kernel
  · subst hj
    decide +kernel
  · have e : jtp 928 j = -1 := by
      unfold jtp
      rw [if_pos (by decide)]
      unfold jtpO
      simp only [Int.reduceEq, if_false, if_true]
      rw [if_neg (by omega)]
    have e2 : topo 928 j = none := by
      unfold topo
      rw [e]
      rfl
    rw [e2]
    unfold FN modelN classN readerN plannerN tapeN rowN lawN looksN
    simp (disch := omega) only [jsetN_k, jsetN_j, shopN_k, jrA_k, jrA_out]
    rfl
theorem ft_s1 {k : Int} (h0 : 1 ≤ k) (h1 : k < 294) (j : Int) : FN k j = topo k j := by
  have e : FN k j = shopN 1 nN k j := by
    unfold FN modelN classN
    simp (disch := omega) only [jsetN_k, shopN_k, readerN_k, rowN_k, plannerN_k]
  have hk : k = 1 + (k - 1) := by omega
  have hN : nN k j = none := by
    first
      | rfl
      | (simp (disch := omega) only [jsetN_k, shopN_k]; rfl)
  have hb : jbase k = 1 := by
    unfold jbase
    rw [if_neg (by omega), if_pos (by omega)]
  rw [e]
  rw [hk] at hN hb ⊢
  rw [shopN_at (by omega) (by omega) hN, topo_shop hb (by decide)]
  by_cases c : 0 ≤ j ∧ 0 ≤ jtpS (k - 1) j
  · rw [if_pos c, if_pos c, if_neg (by omega)]
  · rw [if_neg c, if_neg c]
theorem ft_s295 {k : Int} (h0 : 295 ≤ k) (h1 : k < 588) (j : Int) : FN k j = topo k j := by
  have e : FN k j = shopN 295 (jsetN (jsetN (shopN 1 nN) 0 0 (some 1)) 0 1 (some 294)) k j := by
    unfold FN modelN classN
    simp (disch := omega) only [jsetN_k, shopN_k, readerN_k, rowN_k, plannerN_k]
  have hk : k = 295 + (k - 295) := by omega
  have hN : (jsetN (jsetN (shopN 1 nN) 0 0 (some 1)) 0 1 (some 294)) k j = none := by
    first
      | rfl
      | (simp (disch := omega) only [jsetN_k, shopN_k]; rfl)
  have hb : jbase k = 295 := by
    unfold jbase
    rw [if_neg (by omega), if_neg (by omega), if_neg (by omega), if_pos (by omega)]
  rw [e]
  rw [hk] at hN hb ⊢
  rw [shopN_at (by omega) (by omega) hN, topo_shop hb (by decide)]
  by_cases c : 0 ≤ j ∧ 0 ≤ jtpS (k - 295) j
  · rw [if_pos c, if_pos c, if_neg (by omega)]
  · rw [if_neg c, if_neg c]
theorem ft_s588 {k : Int} (h0 : 588 ≤ k) (h1 : k < 881) (j : Int) : FN k j = topo k j := by
  have e : FN k j = shopN 588 (jsetN (shopN 295 (jsetN (jsetN (shopN 1 nN) 0 0 (some 1)) 0 1 (some 294))) 294 0 (some 295)) k j := by
    unfold FN modelN classN
    simp (disch := omega) only [jsetN_k, shopN_k, readerN_k, rowN_k, plannerN_k]
  have hk : k = 588 + (k - 588) := by omega
  have hN : (jsetN (shopN 295 (jsetN (jsetN (shopN 1 nN) 0 0 (some 1)) 0 1 (some 294))) 294 0 (some 295)) k j = none := by
    first
      | rfl
      | (simp (disch := omega) only [jsetN_k, shopN_k]; rfl)
  have hb : jbase k = 588 := by
    unfold jbase
    rw [if_neg (by omega), if_neg (by omega), if_neg (by omega), if_neg (by omega), if_pos (by omega)]
  rw [e]
  rw [hk] at hN hb ⊢
  rw [shopN_at (by omega) (by omega) hN, topo_shop hb (by decide)]
  by_cases c : 0 ≤ j ∧ 0 ≤ jtpS (k - 588) j
  · rw [if_pos c, if_pos c, if_neg (by omega)]
  · rw [if_neg c, if_neg c]
theorem first_topo (k : Int) (h0 : 0 ≤ k) (h1 : k < 949) (h : (jsh k).1 < 13 ∨ 17 ≤ (jsh k).1) (j : Int) : FN k j = topo k j := by
  have c : k = 0 ∨ (1 ≤ k ∧ k < 294) ∨ k = 294 ∨ (295 ≤ k ∧ k < 588) ∨ (588 ≤ k ∧ k < 881) ∨ k = 881 ∨ k = 882 ∨ k = 883 ∨ k = 884 ∨ k = 885 ∨ k = 886 ∨ k = 887 ∨ k = 888 ∨ k = 889 ∨ k = 890 ∨ k = 891 ∨ k = 892 ∨ k = 893 ∨ k = 894 ∨ k = 895 ∨ k = 896 ∨ k = 897 ∨ k = 898 ∨ k = 899 ∨ k = 900 ∨ k = 901 ∨ k = 902 ∨ k = 903 ∨ k = 904 ∨ k = 905 ∨ k = 906 ∨ k = 907 ∨ k = 908 ∨ k = 909 ∨ k = 910 ∨ k = 911 ∨ k = 912 ∨ k = 913 ∨ k = 914 ∨ k = 915 ∨ k = 916 ∨ k = 917 ∨ k = 918 ∨ k = 919 ∨ k = 920 ∨ k = 921 ∨ k = 922 ∨ k = 923 ∨ k = 924 ∨ k = 925 ∨ k = 926 ∨ k = 927 ∨ k = 928 ∨ k = 929 ∨ k = 930 ∨ k = 931 ∨ k = 932 ∨ k = 933 ∨ k = 934 ∨ k = 935 ∨ k = 936 ∨ k = 937 ∨ k = 938 ∨ k = 939 ∨ k = 940 ∨ k = 941 ∨ k = 942 ∨ k = 943 ∨ k = 944 ∨ k = 945 ∨ k = 946 ∨ k = 947 ∨ k = 948 := by omega
  rcases c with c | c | c | c | c | c | c | c | c | c | c | c | c | c | c | c | c | c | c | c | c | c | c | c | c | c | c | c | c | c | c | c | c | c | c | c | c | c | c | c | c | c | c | c | c | c | c | c | c | c | c | c | c | c | c | c | c | c | c | c | c | c | c | c | c | c | c | c | c | c | c | c | c
  · subst c
    exact ft_0 j
  · exact ft_s1 c.1 c.2 j
  · subst c
    exact ft_294 j
  · exact ft_s295 c.1 c.2 j
  · exact ft_s588 c.1 c.2 j
  · subst c
    exact absurd h (by decide +kernel)
  · subst c
    exact ft_882 j
  · subst c
    exact ft_883 j
  · subst c
    exact absurd h (by decide +kernel)
  · subst c
    exact ft_885 j
  · subst c
    exact absurd h (by decide +kernel)
  · subst c
    exact absurd h (by decide +kernel)
  · subst c
    exact absurd h (by decide +kernel)
  · subst c
    exact absurd h (by decide +kernel)
  · subst c
    exact ft_890 j
  · subst c
    exact absurd h (by decide +kernel)
  · subst c
    exact absurd h (by decide +kernel)
  · subst c
    exact absurd h (by decide +kernel)
  · subst c
    exact ft_894 j
  · subst c
    exact ft_895 j
  · subst c
    exact absurd h (by decide +kernel)
  · subst c
    exact ft_897 j
  · subst c
    exact absurd h (by decide +kernel)
  · subst c
    exact ft_899 j
  · subst c
    exact absurd h (by decide +kernel)
  · subst c
    exact ft_901 j
  · subst c
    exact absurd h (by decide +kernel)
  · subst c
    exact ft_903 j
  · subst c
    exact absurd h (by decide +kernel)
  · subst c
    exact absurd h (by decide +kernel)
  · subst c
    exact absurd h (by decide +kernel)
  · subst c
    exact absurd h (by decide +kernel)
  · subst c
    exact absurd h (by decide +kernel)
  · subst c
    exact absurd h (by decide +kernel)
  · subst c
    exact absurd h (by decide +kernel)
  · subst c
    exact absurd h (by decide +kernel)
  · subst c
    exact ft_912 j
  · subst c
    exact absurd h (by decide +kernel)
  · subst c
    exact absurd h (by decide +kernel)
  · subst c
    exact absurd h (by decide +kernel)
  · subst c
    exact absurd h (by decide +kernel)
  · subst c
    exact absurd h (by decide +kernel)
  · subst c
    exact absurd h (by decide +kernel)
  · subst c
    exact absurd h (by decide +kernel)
  · subst c
    exact absurd h (by decide +kernel)
  · subst c
    exact absurd h (by decide +kernel)
  · subst c
    exact absurd h (by decide +kernel)
  · subst c
    exact absurd h (by decide +kernel)
  · subst c
    exact absurd h (by decide +kernel)
  · subst c
    exact absurd h (by decide +kernel)
  · subst c
    exact absurd h (by decide +kernel)
  · subst c
    exact absurd h (by decide +kernel)
  · subst c
    exact ft_928 j
  · subst c
    exact absurd h (by decide +kernel)
  · subst c
    exact absurd h (by decide +kernel)
  · subst c
    exact absurd h (by decide +kernel)
  · subst c
    exact absurd h (by decide +kernel)
  · subst c
    exact absurd h (by decide +kernel)
  · subst c
    exact absurd h (by decide +kernel)
  · subst c
    exact absurd h (by decide +kernel)
  · subst c
    exact absurd h (by decide +kernel)
  · subst c
    exact absurd h (by decide +kernel)
  · subst c
    exact absurd h (by decide +kernel)
  · subst c
    exact absurd h (by decide +kernel)
  · subst c
    exact absurd h (by decide +kernel)
  · subst c
    exact absurd h (by decide +kernel)
  · subst c
    exact absurd h (by decide +kernel)
  · subst c
    exact absurd h (by decide +kernel)
  · subst c
    exact absurd h (by decide +kernel)
  · subst c
    exact absurd h (by decide +kernel)
  · subst c
    exact absurd h (by decide +kernel)
  · subst c
    exact absurd h (by decide +kernel)
  · subst c
    exact absurd h (by decide +kernel)
