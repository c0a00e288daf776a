/-! CONSTRUCTORS: the class -/
theorem hb_1 (i : Int) (h0 : 0 ≤ i) (h1 : i < 293) : jsh (1 + i) = jshS i := by
  have e : jbase (1 + i) = 1 := by
    unfold jbase
    rw [if_neg (by omega), if_pos (by omega)]
  unfold jsh
  rw [e, if_neg (by decide), show (1 : Int) + i - 1 = i by omega]
theorem hb_295 (i : Int) (h0 : 0 ≤ i) (h1 : i < 293) : jsh (295 + i) = jshS i := by
  have e : jbase (295 + i) = 295 := by
    unfold jbase
    rw [if_neg (by omega), if_neg (by omega), if_neg (by omega), if_pos (by omega)]
  unfold jsh
  rw [e, if_neg (by decide), show (295 : Int) + i - 295 = i by omega]
theorem hb_588 (i : Int) (h0 : 0 ≤ i) (h1 : i < 293) : jsh (588 + i) = jshS i := by
  have e : jbase (588 + i) = 588 := by
    unfold jbase
    rw [if_neg (by omega), if_neg (by omega), if_neg (by omega), if_neg (by omega), if_pos (by omega)]
  unfold jsh
  rw [e, if_neg (by decide), show (588 : Int) + i - 588 = i by omega]
theorem readerN_k {k' j : Int} {N : jN} (h : k' < 882 ∨ 894 ≤ k') : readerN N k' j = N k' j := by
  unfold readerN
  simp (disch := omega) only [jsetN_k, tapeN_k, lawN_k, looksN_k]
theorem readerM_k {k' j : Int} {M : jM} (h : k' < 882 ∨ 894 ≤ k') : readerM M k' j = M k' j := by
  unfold readerM
  simp (disch := omega) only [jset_k, lawM_k]
theorem plannerN_k {k' j : Int} {N : jN} (h : k' < 903 ∨ 928 ≤ k') : plannerN N k' j = N k' j := by
  unfold plannerN
  simp (disch := omega) only [jsetN_k, jrA_k]
theorem plannerM_e {M : jM} : plannerM M = M := rfl
def classN (N : jN) : jN := (jsetN (plannerN (jsetN (rowN 901 (jsetN (rowN 899 (jsetN (rowN 897 (jsetN (rowN 895 (jsetN (jsetN (readerN (jsetN (jsetN (shopN 588 (jsetN (shopN 295 (jsetN (jsetN (shopN 1 N) 0 0 (some 1)) 0 1 (some 294))) 294 0 (some 295))) 294 1 (some 588)) 0 2 (some 881))) 0 3 (some 882)) 0 4 (some 894))) 894 0 (some 895))) 894 1 (some 897))) 894 2 (some 899))) 894 3 (some 901))) 0 5 (some 903))
def classM (M : jM) : jM := (plannerM (rowM 901 (rowM 899 (rowM 897 (rowM 895 (readerM (shopM 588 (shopM 295 (shopM 1 M)))))))))
theorem k_Class {X : jX} {N : jN} {M : jM} (hN : ∀ k1 j : Int, 0 < k1 → N k1 j = none) (hM : ∀ k1 j : Int, 0 < k1 → M k1 j = 0) : jMet X yX11_init cX11_init 2 none 4 927 16987 [jR 0] 1 N M (jKx (1 + 927) (classN N) (classM M)) := by
  refine jMet_of mt_yX11_init (Nat.le_of_ble_eq_true rfl) ?_
  refine e_aload_n (i := 0) 1 dX11_init_0 rfl rfl rfl ?_
  refine e_objI 4 wd_25 wd_26 wd_27 dX11_init_1 ⟨by decide, by decide⟩ (Nat.le_of_ble_eq_true rfl) rfl ?_
  refine e_aload_n (i := 0) 5 dX11_init_4 rfl rfl rfl ?_
  refine f_new 8 2 1 20 (k := 1) jc_8 wd_28 wd_29 wd_2 dX11_init_5 (by decide) (by decide +kernel) (fun j => by simp (disch := omega) only [shopM_k, readerM_k, rowM_k, hM]) (fun j => by simp (disch := omega) only [jsetN_k, shopN_k, readerN_k, rowN_k, hN]) (by decide) rfl rfl (by decide) (by decide) rfl ?_
  refine e_dup 9 dX11_init_8 rfl rfl ?_
  refine f_callIL 12 294 293 4566 (N1 := _) (M1 := _) mt_yX8_init rfl mi_yX8_init wd_30 (Nat.le_of_ble_eq_true rfl) dX11_init_9 (Nat.le_of_ble_eq_true rfl) ⟨by decide, by decide, by decide, by decide⟩ (k_Shop (k := 1) (by decide) (by decide) (by decide +kernel) hb_1 (fun k1 j h => by simp (disch := omega) only [jsetN_k, shopN_k, readerN_k, rowN_k, hN]) (fun k1 j h => by simp (disch := omega) only [shopM_k, readerM_k, rowM_k, hM])) (by decide) rfl rfl rfl ?_
  refine e_putr (j := 0) 15 fl_11_10 dX11_init_12 ⟨by decide, by decide, (by decide +kernel)⟩ rfl rfl rfl rfl rfl rfl ?_
  refine e_aload_n (i := 0) 16 dX11_init_15 rfl rfl rfl ?_
  refine e_iconst 17 dX11_init_16 rfl ?_
  refine f_newq 20 295 294 4568 (k := 294) (t := 9) (zn := 2) (by decide) (by decide) rfl wd_28 (by decide) dX11_init_17 (by decide) rfl (by decide) (by decide +kernel) (fun j => by simp (disch := omega) only [jsetN_k, shopN_k, readerN_k, rowN_k, hN]) (by decide) rfl rfl (by decide) (by decide) rfl ?_
  refine e_putr (j := 1) 23 fl_11_16 dX11_init_20 ⟨by decide, by decide, (by decide +kernel)⟩ rfl rfl rfl rfl rfl rfl ?_
  refine e_iconst 24 dX11_init_23 rfl ?_
  refine e_istore_n (i := 1) (lsn := [(1, jI 0), (0, jR 0)]) 25 dX11_init_24 rfl (by decide) rfl rfl ?_
  refine e_iload_n (i := 1) 26 dX11_init_25 rfl rfl rfl ?_
  refine e_iconst 27 dX11_init_26 rfl ?_
  refine e_icmp_ge 30 49 dX11_init_27 (by decide) (by decide) (by decide) rfl (fun h => absurd h (by decide)) (fun _ => ?_)
  refine e_aload_n (i := 0) 31 dX11_init_30 rfl rfl rfl ?_
  refine e_getr (j := 1) (k2 := 294) 34 fl_11_16 dX11_init_31 ⟨by decide, by decide, (by decide +kernel)⟩ rfl rfl (by simp (disch := omega) only [jsetN_same, jsetN_j, jsetN_k, shopN_k, readerN_k, rowN_k, hN]) rfl ?_
  refine e_iload_n (i := 1) 35 dX11_init_34 rfl rfl rfl ?_
  refine f_new 38 296 295 4588 (k := 295) jc_8 wd_28 wd_29 wd_2 dX11_init_35 (by decide) (by decide +kernel) (fun j => by simp (disch := omega) only [shopM_k, readerM_k, rowM_k, hM]) (fun j => by simp (disch := omega) only [jsetN_k, shopN_k, readerN_k, rowN_k, hN]) (by decide) rfl rfl (by decide) (by decide) rfl ?_
  refine e_dup 39 dX11_init_38 rfl rfl ?_
  refine f_callIL 42 588 587 9134 (N1 := _) (M1 := _) mt_yX8_init rfl mi_yX8_init wd_30 (Nat.le_of_ble_eq_true rfl) dX11_init_39 (Nat.le_of_ble_eq_true rfl) ⟨by decide, by decide, by decide, by decide⟩ (k_Shop (k := 295) (by decide) (by decide) (by decide +kernel) hb_295 (fun k1 j h => by simp (disch := omega) only [jsetN_k, shopN_k, readerN_k, rowN_k, hN]) (fun k1 j h => by simp (disch := omega) only [shopM_k, readerM_k, rowM_k, hM])) (by decide) rfl rfl rfl ?_
  refine e_astq (z := 2) (t := 9) (ci := 8) 43 dX11_init_42 (by decide) ⟨by decide, by decide, (by decide +kernel), by decide, by decide⟩ jc_8 rfl ⟨by decide, by decide, (by decide +kernel)⟩ (by decide) (by decide) rfl ?_
  refine e_iinc (lsn := [(1, jI 1), (0, jR 0)]) 46 dX11_init_43 rfl (by decide) rfl rfl ?_
  refine e_goto 25 dX11_init_46 (by decide) ?_
  refine e_iload_n (i := 1) 26 dX11_init_25 rfl rfl rfl ?_
  refine e_iconst 27 dX11_init_26 rfl ?_
  refine e_icmp_ge 30 49 dX11_init_27 (by decide) (by decide) (by decide) rfl (fun h => absurd h (by decide)) (fun _ => ?_)
  refine e_aload_n (i := 0) 31 dX11_init_30 rfl rfl rfl ?_
  refine e_getr (j := 1) (k2 := 294) 34 fl_11_16 dX11_init_31 ⟨by decide, by decide, (by decide +kernel)⟩ rfl rfl (by simp (disch := omega) only [jsetN_same, jsetN_j, jsetN_k, shopN_k, readerN_k, rowN_k, hN]) rfl ?_
  refine e_iload_n (i := 1) 35 dX11_init_34 rfl rfl rfl ?_
  refine f_new 38 589 588 9154 (k := 588) jc_8 wd_28 wd_29 wd_2 dX11_init_35 (by decide) (by decide +kernel) (fun j => by simp (disch := omega) only [shopM_k, readerM_k, rowM_k, hM]) (fun j => by simp (disch := omega) only [jsetN_k, shopN_k, readerN_k, rowN_k, hN]) (by decide) rfl rfl (by decide) (by decide) rfl ?_
  refine e_dup 39 dX11_init_38 rfl rfl ?_
  refine f_callIL 42 881 880 13700 (N1 := _) (M1 := _) mt_yX8_init rfl mi_yX8_init wd_30 (Nat.le_of_ble_eq_true rfl) dX11_init_39 (Nat.le_of_ble_eq_true rfl) ⟨by decide, by decide, by decide, by decide⟩ (k_Shop (k := 588) (by decide) (by decide) (by decide +kernel) hb_588 (fun k1 j h => by simp (disch := omega) only [jsetN_k, shopN_k, readerN_k, rowN_k, hN]) (fun k1 j h => by simp (disch := omega) only [shopM_k, readerM_k, rowM_k, hM])) (by decide) rfl rfl rfl ?_
  refine e_astq (z := 2) (t := 9) (ci := 8) 43 dX11_init_42 (by decide) ⟨by decide, by decide, (by decide +kernel), by decide, by decide⟩ jc_8 rfl ⟨by decide, by decide, (by decide +kernel)⟩ (by decide) (by decide) rfl ?_
  refine e_iinc (lsn := [(1, jI 2), (0, jR 0)]) 46 dX11_init_43 rfl (by decide) rfl rfl ?_
  refine e_goto 25 dX11_init_46 (by decide) ?_
  refine e_iload_n (i := 1) 26 dX11_init_25 rfl rfl rfl ?_
  refine e_iconst 27 dX11_init_26 rfl ?_
  refine e_icmp_ge 30 49 dX11_init_27 (by decide) (by decide) (by decide) rfl (fun _ => ?_) (fun h => absurd h (by decide))
  refine e_aload_n (i := 0) 50 dX11_init_49 rfl rfl rfl ?_
  refine e_iconst 51 dX11_init_50 rfl ?_
  refine f_newarr 53 882 881 13702 (k := 881) (t := 2) (zn := 2) (atype := .boolean) (by decide) rfl wd_401 dX11_init_51 (by decide) rfl (by decide) (by decide +kernel) (fun j => by simp (disch := omega) only [shopM_k, readerM_k, rowM_k, hM]) (by decide) rfl rfl (by decide) (by decide) rfl ?_
  refine e_putr (j := 2) 56 fl_11_20 dX11_init_53 ⟨by decide, by decide, (by decide +kernel)⟩ rfl rfl rfl rfl rfl rfl ?_
  refine e_aload_n (i := 0) 57 dX11_init_56 rfl rfl rfl ?_
  refine f_new 60 883 882 13708 (k := 882) jc_6 wd_363 wd_364 wd_9 dX11_init_57 (by decide) (by decide +kernel) (fun j => by simp (disch := omega) only [shopM_k, readerM_k, rowM_k, hM]) (fun j => by simp (disch := omega) only [jsetN_k, shopN_k, readerN_k, rowN_k, hN]) (by decide) rfl rfl (by decide) (by decide) rfl ?_
  refine e_dup 61 dX11_init_60 rfl rfl ?_
  refine f_callI 64 894 893 14965 (N1 := _) (M1 := _) mt_yX6_init rfl mi_yX6_init (by decide +kernel) (Nat.le_of_ble_eq_true rfl) dX11_init_61 (Nat.le_of_ble_eq_true rfl) ⟨by decide, by decide, by decide, by decide⟩ (k_Reader (fun k1 j h => by simp (disch := omega) only [jsetN_k, shopN_k, readerN_k, rowN_k, hN]) (fun k1 j h => by simp (disch := omega) only [shopM_k, readerM_k, rowM_k, hM])) (by decide) rfl rfl rfl ?_
  refine e_putr (j := 3) 67 fl_11_27 dX11_init_64 ⟨by decide, by decide, (by decide +kernel)⟩ rfl rfl rfl rfl rfl rfl ?_
  refine e_aload_n (i := 0) 68 dX11_init_67 rfl rfl rfl ?_
  refine e_iconst 69 dX11_init_68 rfl ?_
  refine f_newq 72 895 894 14969 (k := 894) (t := 10) (zn := 4) (by decide) (by decide) rfl wd_431 (by decide) dX11_init_69 (by decide) rfl (by decide) (by decide +kernel) (fun j => by simp (disch := omega) only [jsetN_k, shopN_k, readerN_k, rowN_k, hN]) (by decide) rfl rfl (by decide) (by decide) rfl ?_
  refine e_putr (j := 4) 75 fl_11_33 dX11_init_72 ⟨by decide, by decide, (by decide +kernel)⟩ rfl rfl rfl rfl rfl rfl ?_
  refine e_iconst 76 dX11_init_75 rfl ?_
  refine e_istore_n (i := 1) (lsn := [(1, jI 0), (0, jR 0)]) 77 dX11_init_76 rfl (by decide) rfl rfl ?_
  refine e_iload_n (i := 1) 78 dX11_init_77 rfl rfl rfl ?_
  refine e_iconst 79 dX11_init_78 rfl ?_
  refine e_icmp_ge 82 101 dX11_init_79 (by decide) (by decide) (by decide) rfl (fun h => absurd h (by decide)) (fun _ => ?_)
  refine e_aload_n (i := 0) 83 dX11_init_82 rfl rfl rfl ?_
  refine e_getr (j := 4) (k2 := 894) 86 fl_11_33 dX11_init_83 ⟨by decide, by decide, (by decide +kernel)⟩ rfl rfl (by simp (disch := omega) only [jsetN_same, jsetN_j, jsetN_k, shopN_k, readerN_k, rowN_k, hN]) rfl ?_
  refine e_iload_n (i := 1) 87 dX11_init_86 rfl rfl rfl ?_
  refine f_new 90 896 895 14972 (k := 895) jc_7 wd_431 wd_433 wd_11 dX11_init_87 (by decide) (by decide +kernel) (fun j => by simp (disch := omega) only [shopM_k, readerM_k, rowM_k, hM]) (fun j => by simp (disch := omega) only [jsetN_k, shopN_k, readerN_k, rowN_k, hN]) (by decide) rfl rfl (by decide) (by decide) rfl ?_
  refine e_dup 91 dX11_init_90 rfl rfl ?_
  refine f_callI 94 897 896 15012 (N1 := _) (M1 := _) mt_yX7_init rfl mi_yX7_init (by decide +kernel) (Nat.le_of_ble_eq_true rfl) dX11_init_91 (Nat.le_of_ble_eq_true rfl) ⟨by decide, by decide, by decide, by decide⟩ (k_Row (k := 895) (by decide) (by decide) (by decide +kernel) (by decide +kernel) (fun k1 j h => by simp (disch := omega) only [shopM_k, readerM_k, rowM_k, hM])) (by decide) rfl rfl rfl ?_
  refine e_astq (z := 4) (t := 10) (ci := 7) 95 dX11_init_94 (by decide) ⟨by decide, by decide, (by decide +kernel), by decide, by decide⟩ jc_7 rfl ⟨by decide, by decide, (by decide +kernel)⟩ (by decide) (by decide) rfl ?_
  refine e_iinc (lsn := [(1, jI 1), (0, jR 0)]) 98 dX11_init_95 rfl (by decide) rfl rfl ?_
  refine e_goto 77 dX11_init_98 (by decide) ?_
  refine e_iload_n (i := 1) 78 dX11_init_77 rfl rfl rfl ?_
  refine e_iconst 79 dX11_init_78 rfl ?_
  refine e_icmp_ge 82 101 dX11_init_79 (by decide) (by decide) (by decide) rfl (fun h => absurd h (by decide)) (fun _ => ?_)
  refine e_aload_n (i := 0) 83 dX11_init_82 rfl rfl rfl ?_
  refine e_getr (j := 4) (k2 := 894) 86 fl_11_33 dX11_init_83 ⟨by decide, by decide, (by decide +kernel)⟩ rfl rfl (by simp (disch := omega) only [jsetN_same, jsetN_j, jsetN_k, shopN_k, readerN_k, rowN_k, hN]) rfl ?_
  refine e_iload_n (i := 1) 87 dX11_init_86 rfl rfl rfl ?_
  refine f_new 90 898 897 15015 (k := 897) jc_7 wd_431 wd_433 wd_11 dX11_init_87 (by decide) (by decide +kernel) (fun j => by simp (disch := omega) only [shopM_k, readerM_k, rowM_k, hM]) (fun j => by simp (disch := omega) only [jsetN_k, shopN_k, readerN_k, rowN_k, hN]) (by decide) rfl rfl (by decide) (by decide) rfl ?_
  refine e_dup 91 dX11_init_90 rfl rfl ?_
  refine f_callI 94 899 898 15055 (N1 := _) (M1 := _) mt_yX7_init rfl mi_yX7_init (by decide +kernel) (Nat.le_of_ble_eq_true rfl) dX11_init_91 (Nat.le_of_ble_eq_true rfl) ⟨by decide, by decide, by decide, by decide⟩ (k_Row (k := 897) (by decide) (by decide) (by decide +kernel) (by decide +kernel) (fun k1 j h => by simp (disch := omega) only [shopM_k, readerM_k, rowM_k, hM])) (by decide) rfl rfl rfl ?_
  refine e_astq (z := 4) (t := 10) (ci := 7) 95 dX11_init_94 (by decide) ⟨by decide, by decide, (by decide +kernel), by decide, by decide⟩ jc_7 rfl ⟨by decide, by decide, (by decide +kernel)⟩ (by decide) (by decide) rfl ?_
  refine e_iinc (lsn := [(1, jI 2), (0, jR 0)]) 98 dX11_init_95 rfl (by decide) rfl rfl ?_
  refine e_goto 77 dX11_init_98 (by decide) ?_
  refine e_iload_n (i := 1) 78 dX11_init_77 rfl rfl rfl ?_
  refine e_iconst 79 dX11_init_78 rfl ?_
  refine e_icmp_ge 82 101 dX11_init_79 (by decide) (by decide) (by decide) rfl (fun h => absurd h (by decide)) (fun _ => ?_)
  refine e_aload_n (i := 0) 83 dX11_init_82 rfl rfl rfl ?_
  refine e_getr (j := 4) (k2 := 894) 86 fl_11_33 dX11_init_83 ⟨by decide, by decide, (by decide +kernel)⟩ rfl rfl (by simp (disch := omega) only [jsetN_same, jsetN_j, jsetN_k, shopN_k, readerN_k, rowN_k, hN]) rfl ?_
  refine e_iload_n (i := 1) 87 dX11_init_86 rfl rfl rfl ?_
  refine f_new 90 900 899 15058 (k := 899) jc_7 wd_431 wd_433 wd_11 dX11_init_87 (by decide) (by decide +kernel) (fun j => by simp (disch := omega) only [shopM_k, readerM_k, rowM_k, hM]) (fun j => by simp (disch := omega) only [jsetN_k, shopN_k, readerN_k, rowN_k, hN]) (by decide) rfl rfl (by decide) (by decide) rfl ?_
  refine e_dup 91 dX11_init_90 rfl rfl ?_
  refine f_callI 94 901 900 15098 (N1 := _) (M1 := _) mt_yX7_init rfl mi_yX7_init (by decide +kernel) (Nat.le_of_ble_eq_true rfl) dX11_init_91 (Nat.le_of_ble_eq_true rfl) ⟨by decide, by decide, by decide, by decide⟩ (k_Row (k := 899) (by decide) (by decide) (by decide +kernel) (by decide +kernel) (fun k1 j h => by simp (disch := omega) only [shopM_k, readerM_k, rowM_k, hM])) (by decide) rfl rfl rfl ?_
  refine e_astq (z := 4) (t := 10) (ci := 7) 95 dX11_init_94 (by decide) ⟨by decide, by decide, (by decide +kernel), by decide, by decide⟩ jc_7 rfl ⟨by decide, by decide, (by decide +kernel)⟩ (by decide) (by decide) rfl ?_
  refine e_iinc (lsn := [(1, jI 3), (0, jR 0)]) 98 dX11_init_95 rfl (by decide) rfl rfl ?_
  refine e_goto 77 dX11_init_98 (by decide) ?_
  refine e_iload_n (i := 1) 78 dX11_init_77 rfl rfl rfl ?_
  refine e_iconst 79 dX11_init_78 rfl ?_
  refine e_icmp_ge 82 101 dX11_init_79 (by decide) (by decide) (by decide) rfl (fun h => absurd h (by decide)) (fun _ => ?_)
  refine e_aload_n (i := 0) 83 dX11_init_82 rfl rfl rfl ?_
  refine e_getr (j := 4) (k2 := 894) 86 fl_11_33 dX11_init_83 ⟨by decide, by decide, (by decide +kernel)⟩ rfl rfl (by simp (disch := omega) only [jsetN_same, jsetN_j, jsetN_k, shopN_k, readerN_k, rowN_k, hN]) rfl ?_
  refine e_iload_n (i := 1) 87 dX11_init_86 rfl rfl rfl ?_
  refine f_new 90 902 901 15101 (k := 901) jc_7 wd_431 wd_433 wd_11 dX11_init_87 (by decide) (by decide +kernel) (fun j => by simp (disch := omega) only [shopM_k, readerM_k, rowM_k, hM]) (fun j => by simp (disch := omega) only [jsetN_k, shopN_k, readerN_k, rowN_k, hN]) (by decide) rfl rfl (by decide) (by decide) rfl ?_
  refine e_dup 91 dX11_init_90 rfl rfl ?_
  refine f_callI 94 903 902 15141 (N1 := _) (M1 := _) mt_yX7_init rfl mi_yX7_init (by decide +kernel) (Nat.le_of_ble_eq_true rfl) dX11_init_91 (Nat.le_of_ble_eq_true rfl) ⟨by decide, by decide, by decide, by decide⟩ (k_Row (k := 901) (by decide) (by decide) (by decide +kernel) (by decide +kernel) (fun k1 j h => by simp (disch := omega) only [shopM_k, readerM_k, rowM_k, hM])) (by decide) rfl rfl rfl ?_
  refine e_astq (z := 4) (t := 10) (ci := 7) 95 dX11_init_94 (by decide) ⟨by decide, by decide, (by decide +kernel), by decide, by decide⟩ jc_7 rfl ⟨by decide, by decide, (by decide +kernel)⟩ (by decide) (by decide) rfl ?_
  refine e_iinc (lsn := [(1, jI 4), (0, jR 0)]) 98 dX11_init_95 rfl (by decide) rfl rfl ?_
  refine e_goto 77 dX11_init_98 (by decide) ?_
  refine e_iload_n (i := 1) 78 dX11_init_77 rfl rfl rfl ?_
  refine e_iconst 79 dX11_init_78 rfl ?_
  refine e_icmp_ge 82 101 dX11_init_79 (by decide) (by decide) (by decide) rfl (fun _ => ?_) (fun h => absurd h (by decide))
  refine e_aload_n (i := 0) 102 dX11_init_101 rfl rfl rfl ?_
  refine f_new 105 904 903 15155 (k := 903) jc_4 wd_450 wd_451 wd_12 dX11_init_102 (by decide) (by decide +kernel) (fun j => by simp (disch := omega) only [shopM_k, readerM_k, rowM_k, hM]) (fun j => by simp (disch := omega) only [jsetN_k, shopN_k, readerN_k, rowN_k, hN]) (by decide) rfl rfl (by decide) (by decide) rfl ?_
  refine e_dup 106 dX11_init_105 rfl rfl ?_
  refine f_callI 109 928 927 16987 (N1 := _) (M1 := _) mt_yX4_init rfl mi_yX4_init (by decide +kernel) (Nat.le_of_ble_eq_true rfl) dX11_init_106 (Nat.le_of_ble_eq_true rfl) ⟨by decide, by decide, by decide, by decide⟩ (k_Planner (fun k1 j h => by simp (disch := omega) only [jsetN_k, shopN_k, readerN_k, rowN_k, hN]) (fun k1 j h => by simp (disch := omega) only [shopM_k, readerM_k, rowM_k, hM])) (by decide) rfl rfl rfl ?_
  refine e_putr (j := 5) 112 fl_11_41 dX11_init_109 ⟨by decide, by decide, (by decide +kernel)⟩ rfl rfl rfl rfl rfl rfl ?_
  exact e_vretG dX11_init_112 ⟨rfl, rfl, rfl⟩
