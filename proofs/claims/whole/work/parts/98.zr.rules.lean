/-! CONSTRUCTORS: reader, planner, model -/
theorem rows_lot {i : Int} (h0 : 0 ≤ i) (h1 : i < 11) : jsh (913 + i) = (13, 11) := by
  have : i = 0 ∨ i = 1 ∨ i = 2 ∨ i = 3 ∨ i = 4 ∨ i = 5 ∨ i = 6 ∨ i = 7 ∨ i = 8 ∨ i = 9 ∨ i = 10 := by omega
  rcases this with h | h | h | h | h | h | h | h | h | h | h <;> subst h <;> decide +kernel
def readerN (N : jN) : jN := (jsetN (looksN 890 (jsetN (lawN 885 (jsetN (tapeN 883 N) 882 0 (some 883))) 882 1 (some 885))) 882 2 (some 890))
def readerM (M : jM) : jM := (jset (lawM 885 M) 882 5 (-1))
theorem k_Reader {X : jX} {N : jN} {M : jM} (hN : ∀ k1 j : Int, 882 < k1 → N k1 j = none) (hM : ∀ k1 j : Int, 882 ≤ k1 → M k1 j = 0) : jMet X yX6_init cX6_init 1 none 3 11 1257 [jR 882] 883 N M (jKx (883 + 11) (readerN N) (readerM M)) := by
  refine jMet_of mt_yX6_init (Nat.le_of_ble_eq_true rfl) ?_
  refine e_aload_n (i := 0) 1 dX6_init_0 rfl rfl rfl ?_
  refine e_objI 4 wd_368 wd_26 wd_27 dX6_init_1 ⟨by decide, by decide⟩ (Nat.le_of_ble_eq_true rfl) rfl ?_
  refine e_aload_n (i := 0) 5 dX6_init_4 rfl rfl rfl ?_
  refine f_new 8 884 1 7 (k := 883) jc_9 wd_369 wd_370 wd_10 dX6_init_5 (by decide) (by decide +kernel) (fun j => by simp (disch := omega) only [jset_k, lawM_k, hM]) (fun j => by simp (disch := omega) only [jsetN_k, tapeN_k, lawN_k, looksN_k, hN]) (by decide) rfl rfl (by decide) (by decide) rfl ?_
  refine e_dup 9 dX6_init_8 rfl rfl ?_
  refine f_callI 12 885 2 407 (N1 := _) (M1 := _) mt_yX9_init rfl mi_yX9_init (by decide +kernel) (Nat.le_of_ble_eq_true rfl) dX6_init_9 (Nat.le_of_ble_eq_true rfl) ⟨by decide, by decide, by decide, by decide⟩ (k_Tape (k := 883) (by decide) (by decide) (by decide +kernel) (by decide +kernel) (fun k1 j h => by simp (disch := omega) only [jset_k, lawM_k, hM])) (by decide) rfl rfl rfl ?_
  refine e_putr (j := 0) 15 fl_6_12 dX6_init_12 ⟨by decide, by decide, (by decide +kernel)⟩ rfl rfl rfl rfl rfl rfl ?_
  refine e_aload_n (i := 0) 16 dX6_init_15 rfl rfl rfl ?_
  refine f_new 19 886 3 413 (k := 885) jc_1 wd_403 wd_35 wd_3 dX6_init_16 (by decide) (by decide +kernel) (fun j => by simp (disch := omega) only [jset_k, lawM_k, hM]) (fun j => by simp (disch := omega) only [jsetN_k, tapeN_k, lawN_k, looksN_k, hN]) (by decide) rfl rfl (by decide) (by decide) rfl ?_
  refine e_dup 20 dX6_init_19 rfl rfl ?_
  refine f_callIL 23 890 7 443 (N1 := _) (M1 := _) mt_yX1_init rfl mi_yX1_init wd_404 (Nat.le_of_ble_eq_true rfl) dX6_init_20 (Nat.le_of_ble_eq_true rfl) ⟨by decide, by decide, by decide, by decide⟩ (k_Law (k := 885) (by decide) (by decide) (by decide +kernel) (by decide +kernel) (by decide +kernel) (by decide +kernel) (by decide +kernel) (fun k1 j h => by simp (disch := omega) only [jset_k, lawM_k, hM]) (by simp (disch := omega) only [jset_k, lawM_k, hM]) (by simp (disch := omega) only [jset_k, lawM_k, hM])) (by decide) rfl rfl rfl ?_
  refine e_putr (j := 1) 26 fl_6_21 dX6_init_23 ⟨by decide, by decide, (by decide +kernel)⟩ rfl rfl rfl rfl rfl rfl ?_
  refine e_aload_n (i := 0) 27 dX6_init_26 rfl rfl rfl ?_
  refine f_new 30 891 8 448 (k := 890) jc_2 wd_405 wd_76 wd_4 dX6_init_27 (by decide) (by decide +kernel) (fun j => by simp (disch := omega) only [jset_k, lawM_k, hM]) (fun j => by simp (disch := omega) only [jsetN_k, tapeN_k, lawN_k, looksN_k, hN]) (by decide) rfl rfl (by decide) (by decide) rfl ?_
  refine e_dup 31 dX6_init_30 rfl rfl ?_
  refine f_callI 34 894 11 1257 (N1 := _) (M1 := _) mt_yX2_init rfl mi_yX2_init (by decide +kernel) (Nat.le_of_ble_eq_true rfl) dX6_init_31 (Nat.le_of_ble_eq_true rfl) ⟨by decide, by decide, by decide, by decide⟩ (k_Looks (k := 890) (by decide) (by decide) (by decide +kernel) (by decide +kernel) (by decide +kernel) (by decide +kernel) (fun k1 j h => by simp (disch := omega) only [jset_k, lawM_k, hM])) (by decide) rfl rfl rfl ?_
  refine e_putr (j := 2) 37 fl_6_28 dX6_init_34 ⟨by decide, by decide, (by decide +kernel)⟩ rfl rfl rfl rfl rfl rfl ?_
  refine e_aload_n (i := 0) 38 dX6_init_37 rfl rfl rfl ?_
  refine e_iconst 39 dX6_init_38 rfl ?_
  refine e_put0 (j := 3) 42 fl_6_32 dX6_init_39 ⟨by decide, by decide, (by decide +kernel)⟩ rfl rfl rfl (by decide) (by simp (disch := omega) only [jset_k, lawM_k, hM]) rfl ?_
  refine e_aload_n (i := 0) 43 dX6_init_42 rfl rfl rfl ?_
  refine e_iconst 44 dX6_init_43 rfl ?_
  refine e_put0 (j := 4) 47 fl_6_36 dX6_init_44 ⟨by decide, by decide, (by decide +kernel)⟩ rfl rfl rfl (by decide) (by simp (disch := omega) only [jset_k, lawM_k, hM]) rfl ?_
  refine e_aload_n (i := 0) 48 dX6_init_47 rfl rfl rfl ?_
  refine e_iconst 49 dX6_init_48 rfl ?_
  refine e_puti (j := 5) 52 fl_6_39 dX6_init_49 ⟨by decide, by decide, (by decide +kernel)⟩ rfl rfl rfl (by decide) rfl ?_
  exact e_vretG dX6_init_52 ⟨rfl, rfl, rfl⟩
def plannerN (N : jN) : jN := (jsetN (jsetN (jsetN (jsetN (jsetN (jrA (jsetN (jsetN (jsetN (jsetN (jsetN (jsetN (jsetN (jsetN N 903 1 (some 904)) 903 2 (some 905)) 903 3 (some 906)) 903 4 (some 907)) 903 5 (some 908)) 903 6 (some 909)) 903 7 (some 910)) 903 8 (some 911)) 912 913 11) 903 9 (some 912)) 903 10 (some 924)) 903 11 (some 925)) 903 12 (some 926)) 903 13 (some 927))
def plannerM (M : jM) : jM := M
theorem k_Planner {X : jX} {N : jN} {M : jM} (hN : ∀ k1 j : Int, 903 < k1 → N k1 j = none) (hM : ∀ k1 j : Int, 903 ≤ k1 → M k1 j = 0) : jMet X yX4_init cX4_init 1 none 1 24 1832 [jR 903] 904 N M (jKx (904 + 24) (plannerN N) (plannerM M)) := by
  refine jMet_of mt_yX4_init (Nat.le_of_ble_eq_true rfl) ?_
  refine e_aload_n (i := 0) 1 dX4_init_0 rfl rfl rfl ?_
  refine e_objI 4 wd_455 wd_26 wd_27 dX4_init_1 ⟨by decide, by decide⟩ (Nat.le_of_ble_eq_true rfl) rfl ?_
  refine e_aload_n (i := 0) 5 dX4_init_4 rfl rfl rfl ?_
  refine e_bipush 7 dX4_init_5 (by decide) rfl ?_
  refine f_newarr 9 905 1 10 (k := 904) (t := 0) (zn := 10) (atype := .int) (by decide) rfl wd_74 dX4_init_7 (by decide) rfl (by decide) (by decide +kernel) (fun j => by simp (disch := omega) only [hM]) (by decide) rfl rfl (by decide) (by decide) rfl ?_
  refine e_putr (j := 1) 12 fl_4_11 dX4_init_9 ⟨by decide, by decide, (by decide +kernel)⟩ rfl rfl rfl rfl rfl rfl ?_
  refine e_aload_n (i := 0) 13 dX4_init_12 rfl rfl rfl ?_
  refine e_bipush 15 dX4_init_13 (by decide) rfl ?_
  refine f_newarr 17 906 2 20 (k := 905) (t := 0) (zn := 10) (atype := .int) (by decide) rfl wd_74 dX4_init_15 (by decide) rfl (by decide) (by decide +kernel) (fun j => by simp (disch := omega) only [hM]) (by decide) rfl rfl (by decide) (by decide) rfl ?_
  refine e_putr (j := 2) 20 fl_4_15 dX4_init_17 ⟨by decide, by decide, (by decide +kernel)⟩ rfl rfl rfl rfl rfl rfl ?_
  refine e_aload_n (i := 0) 21 dX4_init_20 rfl rfl rfl ?_
  refine e_sipush 24 dX4_init_21 (by decide) rfl ?_
  refine f_newarr 26 907 3 276 (k := 906) (t := 0) (zn := 256) (atype := .int) (by decide) rfl wd_74 dX4_init_24 (by decide) rfl (by decide) (by decide +kernel) (fun j => by simp (disch := omega) only [hM]) (by decide) rfl rfl (by decide) (by decide) rfl ?_
  refine e_putr (j := 3) 29 fl_4_18 dX4_init_26 ⟨by decide, by decide, (by decide +kernel)⟩ rfl rfl rfl rfl rfl rfl ?_
  refine e_aload_n (i := 0) 30 dX4_init_29 rfl rfl rfl ?_
  refine e_sipush 33 dX4_init_30 (by decide) rfl ?_
  refine f_newarr 35 908 4 532 (k := 907) (t := 0) (zn := 256) (atype := .int) (by decide) rfl wd_74 dX4_init_33 (by decide) rfl (by decide) (by decide +kernel) (fun j => by simp (disch := omega) only [hM]) (by decide) rfl rfl (by decide) (by decide) rfl ?_
  refine e_putr (j := 4) 38 fl_4_21 dX4_init_35 ⟨by decide, by decide, (by decide +kernel)⟩ rfl rfl rfl rfl rfl rfl ?_
  refine e_aload_n (i := 0) 39 dX4_init_38 rfl rfl rfl ?_
  refine e_sipush 42 dX4_init_39 (by decide) rfl ?_
  refine f_newarr 44 909 5 788 (k := 908) (t := 0) (zn := 256) (atype := .int) (by decide) rfl wd_74 dX4_init_42 (by decide) rfl (by decide) (by decide +kernel) (fun j => by simp (disch := omega) only [hM]) (by decide) rfl rfl (by decide) (by decide) rfl ?_
  refine e_putr (j := 5) 47 fl_4_24 dX4_init_44 ⟨by decide, by decide, (by decide +kernel)⟩ rfl rfl rfl rfl rfl rfl ?_
  refine e_aload_n (i := 0) 48 dX4_init_47 rfl rfl rfl ?_
  refine e_sipush 51 dX4_init_48 (by decide) rfl ?_
  refine f_newarr 53 910 6 1044 (k := 909) (t := 0) (zn := 256) (atype := .int) (by decide) rfl wd_74 dX4_init_51 (by decide) rfl (by decide) (by decide +kernel) (fun j => by simp (disch := omega) only [hM]) (by decide) rfl rfl (by decide) (by decide) rfl ?_
  refine e_putr (j := 6) 56 fl_4_27 dX4_init_53 ⟨by decide, by decide, (by decide +kernel)⟩ rfl rfl rfl rfl rfl rfl ?_
  refine e_aload_n (i := 0) 57 dX4_init_56 rfl rfl rfl ?_
  refine e_sipush 60 dX4_init_57 (by decide) rfl ?_
  refine f_newarr 62 911 7 1300 (k := 910) (t := 3) (zn := 256) (atype := .long) (by decide) rfl wd_449 dX4_init_60 (by decide) rfl (by decide) (by decide +kernel) (fun j => by simp (disch := omega) only [hM]) (by decide) rfl rfl (by decide) (by decide) rfl ?_
  refine e_putr (j := 7) 65 fl_4_30 dX4_init_62 ⟨by decide, by decide, (by decide +kernel)⟩ rfl rfl rfl rfl rfl rfl ?_
  refine e_aload_n (i := 0) 66 dX4_init_65 rfl rfl rfl ?_
  refine e_sipush 69 dX4_init_66 (by decide) rfl ?_
  refine f_newarr 71 912 8 1556 (k := 911) (t := 0) (zn := 256) (atype := .int) (by decide) rfl wd_74 dX4_init_69 (by decide) rfl (by decide) (by decide +kernel) (fun j => by simp (disch := omega) only [hM]) (by decide) rfl rfl (by decide) (by decide) rfl ?_
  refine e_putr (j := 8) 74 fl_4_34 dX4_init_71 ⟨by decide, by decide, (by decide +kernel)⟩ rfl rfl rfl rfl rfl rfl ?_
  refine e_aload_n (i := 0) 75 dX4_init_74 rfl rfl rfl ?_
  refine e_bipush 77 dX4_init_75 (by decide) rfl ?_
  refine e_bipush 79 dX4_init_77 (by decide) rfl ?_
  refine f_mna 83 924 20 1688 (k := 912) (k1 := 913) (zn := 11) (wn := 11) wd_456 wd_74 dX4_init_79 (by decide) (by decide) rfl rfl (by decide) (by decide) (by decide +kernel) (fun i h0 h1 => rows_lot h0 h1) (fun i j h0 h1 => by simp (disch := omega) only [hM]) (fun j => by simp (disch := omega) only [jsetN_k, hN]) (by decide) rfl rfl (by decide) (by decide) rfl ?_
  refine e_putr (j := 9) 86 fl_4_39 dX4_init_83 ⟨by decide, by decide, (by decide +kernel)⟩ rfl rfl rfl rfl rfl rfl ?_
  refine e_aload_n (i := 0) 87 dX4_init_86 rfl rfl rfl ?_
  refine e_bipush 89 dX4_init_87 (by decide) rfl ?_
  refine f_newarr 91 925 21 1748 (k := 924) (t := 0) (zn := 60) (atype := .int) (by decide) rfl wd_74 dX4_init_89 (by decide) rfl (by decide) (by decide +kernel) (fun j => by simp (disch := omega) only [hM]) (by decide) rfl rfl (by decide) (by decide) rfl ?_
  refine e_putr (j := 10) 94 fl_4_42 dX4_init_91 ⟨by decide, by decide, (by decide +kernel)⟩ rfl rfl rfl rfl rfl rfl ?_
  refine e_aload_n (i := 0) 95 dX4_init_94 rfl rfl rfl ?_
  refine e_bipush 97 dX4_init_95 (by decide) rfl ?_
  refine f_newarr 99 926 22 1760 (k := 925) (t := 0) (zn := 12) (atype := .int) (by decide) rfl wd_74 dX4_init_97 (by decide) rfl (by decide) (by decide +kernel) (fun j => by simp (disch := omega) only [hM]) (by decide) rfl rfl (by decide) (by decide) rfl ?_
  refine e_putr (j := 11) 102 fl_4_45 dX4_init_99 ⟨by decide, by decide, (by decide +kernel)⟩ rfl rfl rfl rfl rfl rfl ?_
  refine e_aload_n (i := 0) 103 dX4_init_102 rfl rfl rfl ?_
  refine e_bipush 105 dX4_init_103 (by decide) rfl ?_
  refine f_newarr 107 927 23 1772 (k := 926) (t := 2) (zn := 12) (atype := .boolean) (by decide) rfl wd_401 dX4_init_105 (by decide) rfl (by decide) (by decide +kernel) (fun j => by simp (disch := omega) only [hM]) (by decide) rfl rfl (by decide) (by decide) rfl ?_
  refine e_putr (j := 12) 110 fl_4_48 dX4_init_107 ⟨by decide, by decide, (by decide +kernel)⟩ rfl rfl rfl rfl rfl rfl ?_
  refine e_aload_n (i := 0) 111 dX4_init_110 rfl rfl rfl ?_
  refine e_bipush 113 dX4_init_111 (by decide) rfl ?_
  refine f_newarr 115 928 24 1832 (k := 927) (t := 2) (zn := 60) (atype := .boolean) (by decide) rfl wd_401 dX4_init_113 (by decide) rfl (by decide) (by decide +kernel) (fun j => by simp (disch := omega) only [hM]) (by decide) rfl rfl (by decide) (by decide) rfl ?_
  refine e_putr (j := 13) 118 fl_4_52 dX4_init_115 ⟨by decide, by decide, (by decide +kernel)⟩ rfl rfl rfl rfl rfl rfl ?_
  exact e_vretG dX4_init_118 ⟨rfl, rfl, rfl⟩
def modelN (N : jN) : jN := (jsetN (jsetN (jsetN (jsetN (jsetN (jsetN (jsetN (jsetN (jsetN (jsetN (jsetN (jsetN (jsetN (jsetN (jsetN (jsetN (jsetN (jsetN (jsetN (jsetN N 928 1 (some 929)) 928 2 (some 930)) 928 3 (some 931)) 928 4 (some 932)) 928 18 (some 933)) 928 19 (some 934)) 928 20 (some 935)) 928 21 (some 936)) 928 22 (some 937)) 928 23 (some 938)) 928 24 (some 939)) 928 25 (some 940)) 928 26 (some 941)) 928 27 (some 942)) 928 28 (some 943)) 928 29 (some 944)) 928 30 (some 945)) 928 31 (some 946)) 928 32 (some 947)) 928 33 (some 948))
def modelM (M : jM) : jM := (jset (jset (jset (jset (jset (jset (jset M 928 17 (-1)) 946 0 (-1)) 946 1 (-1)) 946 2 (-1)) 946 3 (-1)) 929 28 (52)) 929 30 (2))
theorem k_Model {X : jX} {N : jN} {M : jM} (hN : ∀ k1 j : Int, 928 < k1 → N k1 j = none) (hM : ∀ k1 j : Int, 928 ≤ k1 → M k1 j = 0) : jMet X yX12_init cX12_init 1 none 1 20 13681 [jR 928] 929 N M (jKx (929 + 20) (modelN N) (modelM M)) := by
  refine jMet_of mt_yX12_init (Nat.le_of_ble_eq_true rfl) ?_
  refine e_aload_n (i := 0) 1 dX12_init_0 rfl rfl rfl ?_
  refine e_objI 4 wd_1278 wd_26 wd_27 dX12_init_1 ⟨by decide, by decide⟩ (Nat.le_of_ble_eq_true rfl) rfl ?_
  refine e_aload_n (i := 0) 5 dX12_init_4 rfl rfl rfl ?_
  refine e_sipush 8 dX12_init_5 (by decide) rfl ?_
  refine f_newarr 10 930 1 11760 (k := 929) (t := 0) (zn := 11760) (atype := .int) (by decide) rfl wd_74 dX12_init_8 (by decide) rfl (by decide) (by decide +kernel) (fun j => by simp (disch := omega) only [jset_k, jset_j, hM]) (by decide) rfl rfl (by decide) (by decide) rfl ?_
  refine e_putr (j := 1) 13 fl_12_13 dX12_init_10 ⟨by decide, by decide, (by decide +kernel)⟩ rfl rfl rfl rfl rfl rfl ?_
  refine e_aload_n (i := 0) 14 dX12_init_13 rfl rfl rfl ?_
  refine e_iconst 15 dX12_init_14 rfl ?_
  refine f_newarr 17 931 2 11762 (k := 930) (t := 2) (zn := 2) (atype := .boolean) (by decide) rfl wd_401 dX12_init_15 (by decide) rfl (by decide) (by decide +kernel) (fun j => by simp (disch := omega) only [jset_k, jset_j, hM]) (by decide) rfl rfl (by decide) (by decide) rfl ?_
  refine e_putr (j := 2) 20 fl_12_17 dX12_init_17 ⟨by decide, by decide, (by decide +kernel)⟩ rfl rfl rfl rfl rfl rfl ?_
  refine e_aload_n (i := 0) 21 dX12_init_20 rfl rfl rfl ?_
  refine e_sipush 24 dX12_init_21 (by decide) rfl ?_
  refine f_newarr 26 932 3 12162 (k := 931) (t := 0) (zn := 400) (atype := .int) (by decide) rfl wd_74 dX12_init_24 (by decide) rfl (by decide) (by decide +kernel) (fun j => by simp (disch := omega) only [jset_k, jset_j, hM]) (by decide) rfl rfl (by decide) (by decide) rfl ?_
  refine e_putr (j := 3) 29 fl_12_21 dX12_init_26 ⟨by decide, by decide, (by decide +kernel)⟩ rfl rfl rfl rfl rfl rfl ?_
  refine e_aload_n (i := 0) 30 dX12_init_29 rfl rfl rfl ?_
  refine e_sipush 33 dX12_init_30 (by decide) rfl ?_
  refine f_newarr 35 933 4 12744 (k := 932) (t := 0) (zn := 582) (atype := .int) (by decide) rfl wd_74 dX12_init_33 (by decide) rfl (by decide) (by decide +kernel) (fun j => by simp (disch := omega) only [jset_k, jset_j, hM]) (by decide) rfl rfl (by decide) (by decide) rfl ?_
  refine e_putr (j := 4) 38 fl_12_24 dX12_init_35 ⟨by decide, by decide, (by decide +kernel)⟩ rfl rfl rfl rfl rfl rfl ?_
  refine e_aload_n (i := 0) 39 dX12_init_38 rfl rfl rfl ?_
  refine e_iconst 40 dX12_init_39 rfl ?_
  refine e_puti (j := 17) 43 fl_12_27 dX12_init_40 ⟨by decide, by decide, (by decide +kernel)⟩ rfl rfl rfl (by decide) rfl ?_
  refine e_aload_n (i := 0) 44 dX12_init_43 rfl rfl rfl ?_
  refine e_bipush 46 dX12_init_44 (by decide) rfl ?_
  refine f_newarr 48 934 5 12751 (k := 933) (t := 0) (zn := 7) (atype := .int) (by decide) rfl wd_74 dX12_init_46 (by decide) rfl (by decide) (by decide +kernel) (fun j => by simp (disch := omega) only [jset_k, jset_j, hM]) (by decide) rfl rfl (by decide) (by decide) rfl ?_
  refine e_putr (j := 18) 51 fl_12_30 dX12_init_48 ⟨by decide, by decide, (by decide +kernel)⟩ rfl rfl rfl rfl rfl rfl ?_
  refine e_aload_n (i := 0) 52 dX12_init_51 rfl rfl rfl ?_
  refine e_bipush 54 dX12_init_52 (by decide) rfl ?_
  refine f_newarr 56 935 6 12758 (k := 934) (t := 0) (zn := 7) (atype := .int) (by decide) rfl wd_74 dX12_init_54 (by decide) rfl (by decide) (by decide +kernel) (fun j => by simp (disch := omega) only [jset_k, jset_j, hM]) (by decide) rfl rfl (by decide) (by decide) rfl ?_
  refine e_putr (j := 19) 59 fl_12_33 dX12_init_56 ⟨by decide, by decide, (by decide +kernel)⟩ rfl rfl rfl rfl rfl rfl ?_
  refine e_aload_n (i := 0) 60 dX12_init_59 rfl rfl rfl ?_
  refine e_bipush 62 dX12_init_60 (by decide) rfl ?_
  refine f_newarr 64 936 7 12765 (k := 935) (t := 0) (zn := 7) (atype := .int) (by decide) rfl wd_74 dX12_init_62 (by decide) rfl (by decide) (by decide +kernel) (fun j => by simp (disch := omega) only [jset_k, jset_j, hM]) (by decide) rfl rfl (by decide) (by decide) rfl ?_
  refine e_putr (j := 20) 67 fl_12_36 dX12_init_64 ⟨by decide, by decide, (by decide +kernel)⟩ rfl rfl rfl rfl rfl rfl ?_
  refine e_aload_n (i := 0) 68 dX12_init_67 rfl rfl rfl ?_
  refine e_bipush 70 dX12_init_68 (by decide) rfl ?_
  refine f_newarr 72 937 8 12775 (k := 936) (t := 0) (zn := 10) (atype := .int) (by decide) rfl wd_74 dX12_init_70 (by decide) rfl (by decide) (by decide +kernel) (fun j => by simp (disch := omega) only [jset_k, jset_j, hM]) (by decide) rfl rfl (by decide) (by decide) rfl ?_
  refine e_putr (j := 21) 75 fl_12_39 dX12_init_72 ⟨by decide, by decide, (by decide +kernel)⟩ rfl rfl rfl rfl rfl rfl ?_
  refine e_aload_n (i := 0) 76 dX12_init_75 rfl rfl rfl ?_
  refine e_bipush 78 dX12_init_76 (by decide) rfl ?_
  refine f_newarr 80 938 9 12785 (k := 937) (t := 0) (zn := 10) (atype := .int) (by decide) rfl wd_74 dX12_init_78 (by decide) rfl (by decide) (by decide +kernel) (fun j => by simp (disch := omega) only [jset_k, jset_j, hM]) (by decide) rfl rfl (by decide) (by decide) rfl ?_
  refine e_putr (j := 22) 83 fl_12_42 dX12_init_80 ⟨by decide, by decide, (by decide +kernel)⟩ rfl rfl rfl rfl rfl rfl ?_
  refine e_aload_n (i := 0) 84 dX12_init_83 rfl rfl rfl ?_
  refine e_bipush 86 dX12_init_84 (by decide) rfl ?_
  refine f_newarr 88 939 10 12795 (k := 938) (t := 0) (zn := 10) (atype := .int) (by decide) rfl wd_74 dX12_init_86 (by decide) rfl (by decide) (by decide +kernel) (fun j => by simp (disch := omega) only [jset_k, jset_j, hM]) (by decide) rfl rfl (by decide) (by decide) rfl ?_
  refine e_putr (j := 23) 91 fl_12_45 dX12_init_88 ⟨by decide, by decide, (by decide +kernel)⟩ rfl rfl rfl rfl rfl rfl ?_
  refine e_aload_n (i := 0) 92 dX12_init_91 rfl rfl rfl ?_
  refine e_bipush 94 dX12_init_92 (by decide) rfl ?_
  refine f_newarr 96 940 11 12805 (k := 939) (t := 0) (zn := 10) (atype := .int) (by decide) rfl wd_74 dX12_init_94 (by decide) rfl (by decide) (by decide +kernel) (fun j => by simp (disch := omega) only [jset_k, jset_j, hM]) (by decide) rfl rfl (by decide) (by decide) rfl ?_
  refine e_putr (j := 24) 99 fl_12_48 dX12_init_96 ⟨by decide, by decide, (by decide +kernel)⟩ rfl rfl rfl rfl rfl rfl ?_
  refine e_aload_n (i := 0) 100 dX12_init_99 rfl rfl rfl ?_
  refine e_sipush 103 dX12_init_100 (by decide) rfl ?_
  refine f_newarr 105 941 12 13065 (k := 940) (t := 2) (zn := 260) (atype := .boolean) (by decide) rfl wd_401 dX12_init_103 (by decide) rfl (by decide) (by decide +kernel) (fun j => by simp (disch := omega) only [jset_k, jset_j, hM]) (by decide) rfl rfl (by decide) (by decide) rfl ?_
  refine e_putr (j := 25) 108 fl_12_51 dX12_init_105 ⟨by decide, by decide, (by decide +kernel)⟩ rfl rfl rfl rfl rfl rfl ?_
  refine e_aload_n (i := 0) 109 dX12_init_108 rfl rfl rfl ?_
  refine e_bipush 111 dX12_init_109 (by decide) rfl ?_
  refine f_newarr 113 942 13 13125 (k := 941) (t := 0) (zn := 60) (atype := .int) (by decide) rfl wd_74 dX12_init_111 (by decide) rfl (by decide) (by decide +kernel) (fun j => by simp (disch := omega) only [jset_k, jset_j, hM]) (by decide) rfl rfl (by decide) (by decide) rfl ?_
  refine e_putr (j := 26) 116 fl_12_54 dX12_init_113 ⟨by decide, by decide, (by decide +kernel)⟩ rfl rfl rfl rfl rfl rfl ?_
  refine e_aload_n (i := 0) 117 dX12_init_116 rfl rfl rfl ?_
  refine e_sipush 120 dX12_init_117 (by decide) rfl ?_
  refine f_newarr 122 943 14 13381 (k := 942) (t := 0) (zn := 256) (atype := .int) (by decide) rfl wd_74 dX12_init_120 (by decide) rfl (by decide) (by decide +kernel) (fun j => by simp (disch := omega) only [jset_k, jset_j, hM]) (by decide) rfl rfl (by decide) (by decide) rfl ?_
  refine e_putr (j := 27) 125 fl_12_57 dX12_init_122 ⟨by decide, by decide, (by decide +kernel)⟩ rfl rfl rfl rfl rfl rfl ?_
  refine e_aload_n (i := 0) 126 dX12_init_125 rfl rfl rfl ?_
  refine e_bipush 128 dX12_init_126 (by decide) rfl ?_
  refine f_newarr 130 944 15 13441 (k := 943) (t := 0) (zn := 60) (atype := .int) (by decide) rfl wd_74 dX12_init_128 (by decide) rfl (by decide) (by decide +kernel) (fun j => by simp (disch := omega) only [jset_k, jset_j, hM]) (by decide) rfl rfl (by decide) (by decide) rfl ?_
  refine e_putr (j := 28) 133 fl_12_60 dX12_init_130 ⟨by decide, by decide, (by decide +kernel)⟩ rfl rfl rfl rfl rfl rfl ?_
  refine e_aload_n (i := 0) 134 dX12_init_133 rfl rfl rfl ?_
  refine e_bipush 136 dX12_init_134 (by decide) rfl ?_
  refine f_newarr 138 945 16 13453 (k := 944) (t := 0) (zn := 12) (atype := .int) (by decide) rfl wd_74 dX12_init_136 (by decide) rfl (by decide) (by decide +kernel) (fun j => by simp (disch := omega) only [jset_k, jset_j, hM]) (by decide) rfl rfl (by decide) (by decide) rfl ?_
  refine e_putr (j := 29) 141 fl_12_63 dX12_init_138 ⟨by decide, by decide, (by decide +kernel)⟩ rfl rfl rfl rfl rfl rfl ?_
  refine e_aload_n (i := 0) 142 dX12_init_141 rfl rfl rfl ?_
  refine e_bipush 144 dX12_init_142 (by decide) rfl ?_
  refine f_newarr 146 946 17 13513 (k := 945) (t := 2) (zn := 60) (atype := .boolean) (by decide) rfl wd_401 dX12_init_144 (by decide) rfl (by decide) (by decide +kernel) (fun j => by simp (disch := omega) only [jset_k, jset_j, hM]) (by decide) rfl rfl (by decide) (by decide) rfl ?_
  refine e_putr (j := 30) 149 fl_12_66 dX12_init_146 ⟨by decide, by decide, (by decide +kernel)⟩ rfl rfl rfl rfl rfl rfl ?_
  refine e_aload_n (i := 0) 150 dX12_init_149 rfl rfl rfl ?_
  refine e_iconst 151 dX12_init_150 rfl ?_
  refine f_newarr 153 947 18 13517 (k := 946) (t := 0) (zn := 4) (atype := .int) (by decide) rfl wd_74 dX12_init_151 (by decide) rfl (by decide) (by decide +kernel) (fun j => by simp (disch := omega) only [jset_k, jset_j, hM]) (by decide) rfl rfl (by decide) (by decide) rfl ?_
  refine e_dup 154 dX12_init_153 rfl rfl ?_
  refine e_iconst 155 dX12_init_154 rfl ?_
  refine e_iconst 156 dX12_init_155 rfl ?_
  refine e_iast (j := 0) (z := ((4 : Nat) : Int)) 157 dX12_init_156 ⟨by decide, by decide, (by decide +kernel), by decide, by decide⟩ (by decide) (by decide) (by decide) rfl ?_
  refine e_dup 158 dX12_init_157 rfl rfl ?_
  refine e_iconst 159 dX12_init_158 rfl ?_
  refine e_iconst 160 dX12_init_159 rfl ?_
  refine e_iast (j := 1) (z := ((4 : Nat) : Int)) 161 dX12_init_160 ⟨by decide, by decide, (by decide +kernel), by decide, by decide⟩ (by decide) (by decide) (by decide) rfl ?_
  refine e_dup 162 dX12_init_161 rfl rfl ?_
  refine e_iconst 163 dX12_init_162 rfl ?_
  refine e_iconst 164 dX12_init_163 rfl ?_
  refine e_iast (j := 2) (z := ((4 : Nat) : Int)) 165 dX12_init_164 ⟨by decide, by decide, (by decide +kernel), by decide, by decide⟩ (by decide) (by decide) (by decide) rfl ?_
  refine e_dup 166 dX12_init_165 rfl rfl ?_
  refine e_iconst 167 dX12_init_166 rfl ?_
  refine e_iconst 168 dX12_init_167 rfl ?_
  refine e_iast (j := 3) (z := ((4 : Nat) : Int)) 169 dX12_init_168 ⟨by decide, by decide, (by decide +kernel), by decide, by decide⟩ (by decide) (by decide) (by decide) rfl ?_
  refine e_putr (j := 31) 172 fl_12_69 dX12_init_169 ⟨by decide, by decide, (by decide +kernel)⟩ rfl rfl rfl rfl rfl rfl ?_
  refine e_aload_n (i := 0) 173 dX12_init_172 rfl rfl rfl ?_
  refine e_iconst 174 dX12_init_173 rfl ?_
  refine f_newarr 176 948 19 13521 (k := 947) (t := 0) (zn := 4) (atype := .int) (by decide) rfl wd_74 dX12_init_174 (by decide) rfl (by decide) (by decide +kernel) (fun j => by simp (disch := omega) only [jset_k, jset_j, hM]) (by decide) rfl rfl (by decide) (by decide) rfl ?_
  refine e_putr (j := 32) 179 fl_12_72 dX12_init_176 ⟨by decide, by decide, (by decide +kernel)⟩ rfl rfl rfl rfl rfl rfl ?_
  refine e_aload_n (i := 0) 180 dX12_init_179 rfl rfl rfl ?_
  refine e_sipush 183 dX12_init_180 (by decide) rfl ?_
  refine f_newarr 185 949 20 13681 (k := 948) (t := 3) (zn := 160) (atype := .long) (by decide) rfl wd_449 dX12_init_183 (by decide) rfl (by decide) (by decide +kernel) (fun j => by simp (disch := omega) only [jset_k, jset_j, hM]) (by decide) rfl rfl (by decide) (by decide) rfl ?_
  refine e_putr (j := 33) 188 fl_12_75 dX12_init_185 ⟨by decide, by decide, (by decide +kernel)⟩ rfl rfl rfl rfl rfl rfl ?_
  refine e_aload_n (i := 0) 189 dX12_init_188 rfl rfl rfl ?_
  refine e_getr (j := 1) (k2 := 929) 192 fl_12_13 dX12_init_189 ⟨by decide, by decide, (by decide +kernel)⟩ rfl rfl (by simp (disch := omega) only [jsetN_same, jsetN_j, jsetN_k, jrA_k]) rfl ?_
  refine e_bipush 194 dX12_init_192 (by decide) rfl ?_
  refine e_bipush 196 dX12_init_194 (by decide) rfl ?_
  refine e_iast (j := 28) (z := ((11760 : Nat) : Int)) 197 dX12_init_196 ⟨by decide, by decide, (by decide +kernel), by decide, by decide⟩ (by decide) (by decide) (by decide) rfl ?_
  refine e_aload_n (i := 0) 198 dX12_init_197 rfl rfl rfl ?_
  refine e_getr (j := 1) (k2 := 929) 201 fl_12_13 dX12_init_198 ⟨by decide, by decide, (by decide +kernel)⟩ rfl rfl (by simp (disch := omega) only [jsetN_same, jsetN_j, jsetN_k, jrA_k]) rfl ?_
  refine e_bipush 203 dX12_init_201 (by decide) rfl ?_
  refine e_iconst 204 dX12_init_203 rfl ?_
  refine e_iast (j := 30) (z := ((11760 : Nat) : Int)) 205 dX12_init_204 ⟨by decide, by decide, (by decide +kernel), by decide, by decide⟩ (by decide) (by decide) (by decide) rfl ?_
  exact e_vretG dX12_init_205 ⟨rfl, rfl, rfl⟩
