/-! CONSTRUCTORS: law, looks, tape, row -/
def lawM (k : Int) (M : jM) : jM := jset (jset M (k + 4) 3 52) (k + 4) 5 2
theorem lawM_k {k k' j : Int} {M : jM} (h : k' ≠ k + 4) : lawM k M k' j = M k' j := (jset_k h).trans (jset_k h)
def lawN (k : Int) (N : jN) : jN := jsetN (jsetN (jsetN (jsetN N k 1 (some (k + 1))) k 2 (some (k + 2))) k 3 (some (k + 3))) k 4 (some (k + 4))
theorem lawN_k {k k' j : Int} {N : jN} (h : k' ≠ k) : lawN k N k' j = N k' j := (jsetN_k h).trans ((jsetN_k h).trans ((jsetN_k h).trans (jsetN_k h)))
def looksN (k : Int) (N : jN) : jN := jsetN (jsetN (jsetN N k 2 (some (k + 1))) k 3 (some (k + 2))) k 4 (some (k + 3))
theorem looksN_k {k k' j : Int} {N : jN} (h : k' ≠ k) : looksN k N k' j = N k' j := (jsetN_k h).trans ((jsetN_k h).trans (jsetN_k h))
def tapeN (k : Int) (N : jN) : jN := jsetN N k 0 (some (k + 1))
theorem tapeN_k {k k' j : Int} {N : jN} (h : k' ≠ k) : tapeN k N k' j = N k' j := jsetN_k h
def rowN (k : Int) (N : jN) : jN := jsetN N k 2 (some (k + 1))
theorem rowN_k {k k' j : Int} {N : jN} (h : k' ≠ k) : rowN k N k' j = N k' j := jsetN_k h
def rowM (k : Int) (M : jM) : jM := jset M k 0 (-1)
theorem rowM_k {k k' j : Int} {M : jM} (h : k' ≠ k) : rowM k M k' j = M k' j := jset_k h
theorem k_clear {X : jX} {n : Nat} {N : jN} {M : jM} {k : Int} (hk : jAt n k 1) (ha : jAr n (k + 4) 13 6) (hN : N k 4 = some (k + 4)) (h0 : M k 0 = 0) (h5 : M k 5 = 0) (hM : ∀ j, M (k + 4) j = 0) : jMet X yX1_clear cX1_clear 2 none 1 0 0 [jR k] n N M (jKx n N (lawM k M)) := by
  refine jMet_of mt_yX1_clear (Nat.le_of_ble_eq_true rfl) ?_
  refine e_aload_n (i := 0) 1 dX1_clear_0 rfl rfl rfl ?_
  refine e_iconst 2 dX1_clear_1 rfl ?_
  refine e_put0 (j := 0) 5 fl_1_27 dX1_clear_2 hk rfl rfl rfl (by decide) h0 rfl ?_
  refine e_aload_n (i := 0) 6 dX1_clear_5 rfl rfl rfl ?_
  refine e_iconst 7 dX1_clear_6 rfl ?_
  refine e_put0 (j := 5) 10 fl_1_31 dX1_clear_7 hk rfl rfl rfl (by decide) h5 rfl ?_
  refine e_iconst 11 dX1_clear_10 rfl ?_
  refine e_istore_n (i := 1) (lsn := [(1, jI 0), (0, jR k)]) 12 dX1_clear_11 rfl (by decide) rfl rfl ?_
  refine e_iload_n (i := 1) 13 dX1_clear_12 rfl rfl rfl ?_
  refine e_bipush 15 dX1_clear_13 (by decide) rfl ?_
  refine e_icmp_ge 18 35 dX1_clear_15 (by decide) (by decide) (by decide) rfl (fun h => absurd h (by decide)) (fun _ => ?_)
  refine e_aload_n (i := 0) 19 dX1_clear_18 rfl rfl rfl ?_
  refine e_getr (j := 4) 22 fl_1_21 dX1_clear_19 hk rfl rfl hN rfl ?_
  refine e_iload_n (i := 1) 23 dX1_clear_22 rfl rfl rfl ?_
  refine e_getsN 26 (i := 0) (by decide) (by decide +kernel) dX1_clear_23 rfl ?_
  refine e_iload_n (i := 1) 27 dX1_clear_26 rfl rfl rfl ?_
  refine f_tald 28 (i := 0) (v := 0) (by decide) dX1_clear_27 (by decide) (by decide) rfl rfl ?_
  refine f_iast0 29 dX1_clear_28 ha (by decide) (by decide) (by decide) (hM 0) rfl ?_
  refine e_iinc (lsn := [(1, jI 1), (0, jR k)]) 32 dX1_clear_29 rfl (by decide) rfl rfl ?_
  refine e_goto 12 dX1_clear_32 (by decide) ?_
  refine e_iload_n (i := 1) 13 dX1_clear_12 rfl rfl rfl ?_
  refine e_bipush 15 dX1_clear_13 (by decide) rfl ?_
  refine e_icmp_ge 18 35 dX1_clear_15 (by decide) (by decide) (by decide) rfl (fun h => absurd h (by decide)) (fun _ => ?_)
  refine e_aload_n (i := 0) 19 dX1_clear_18 rfl rfl rfl ?_
  refine e_getr (j := 4) 22 fl_1_21 dX1_clear_19 hk rfl rfl hN rfl ?_
  refine e_iload_n (i := 1) 23 dX1_clear_22 rfl rfl rfl ?_
  refine e_getsN 26 (i := 0) (by decide) (by decide +kernel) dX1_clear_23 rfl ?_
  refine e_iload_n (i := 1) 27 dX1_clear_26 rfl rfl rfl ?_
  refine f_tald 28 (i := 0) (v := 0) (by decide) dX1_clear_27 (by decide) (by decide) rfl rfl ?_
  refine f_iast0 29 dX1_clear_28 ha (by decide) (by decide) (by decide) (hM 1) rfl ?_
  refine e_iinc (lsn := [(1, jI 2), (0, jR k)]) 32 dX1_clear_29 rfl (by decide) rfl rfl ?_
  refine e_goto 12 dX1_clear_32 (by decide) ?_
  refine e_iload_n (i := 1) 13 dX1_clear_12 rfl rfl rfl ?_
  refine e_bipush 15 dX1_clear_13 (by decide) rfl ?_
  refine e_icmp_ge 18 35 dX1_clear_15 (by decide) (by decide) (by decide) rfl (fun h => absurd h (by decide)) (fun _ => ?_)
  refine e_aload_n (i := 0) 19 dX1_clear_18 rfl rfl rfl ?_
  refine e_getr (j := 4) 22 fl_1_21 dX1_clear_19 hk rfl rfl hN rfl ?_
  refine e_iload_n (i := 1) 23 dX1_clear_22 rfl rfl rfl ?_
  refine e_getsN 26 (i := 0) (by decide) (by decide +kernel) dX1_clear_23 rfl ?_
  refine e_iload_n (i := 1) 27 dX1_clear_26 rfl rfl rfl ?_
  refine f_tald 28 (i := 0) (v := 0) (by decide) dX1_clear_27 (by decide) (by decide) rfl rfl ?_
  refine f_iast0 29 dX1_clear_28 ha (by decide) (by decide) (by decide) (hM 2) rfl ?_
  refine e_iinc (lsn := [(1, jI 3), (0, jR k)]) 32 dX1_clear_29 rfl (by decide) rfl rfl ?_
  refine e_goto 12 dX1_clear_32 (by decide) ?_
  refine e_iload_n (i := 1) 13 dX1_clear_12 rfl rfl rfl ?_
  refine e_bipush 15 dX1_clear_13 (by decide) rfl ?_
  refine e_icmp_ge 18 35 dX1_clear_15 (by decide) (by decide) (by decide) rfl (fun h => absurd h (by decide)) (fun _ => ?_)
  refine e_aload_n (i := 0) 19 dX1_clear_18 rfl rfl rfl ?_
  refine e_getr (j := 4) 22 fl_1_21 dX1_clear_19 hk rfl rfl hN rfl ?_
  refine e_iload_n (i := 1) 23 dX1_clear_22 rfl rfl rfl ?_
  refine e_getsN 26 (i := 0) (by decide) (by decide +kernel) dX1_clear_23 rfl ?_
  refine e_iload_n (i := 1) 27 dX1_clear_26 rfl rfl rfl ?_
  refine f_tald 28 (i := 0) (v := 52) (by decide) dX1_clear_27 (by decide) (by decide) rfl rfl ?_
  refine e_iast 29 dX1_clear_28 ha (by decide) (by decide) (by decide) rfl ?_
  refine e_iinc (lsn := [(1, jI 4), (0, jR k)]) 32 dX1_clear_29 rfl (by decide) rfl rfl ?_
  refine e_goto 12 dX1_clear_32 (by decide) ?_
  refine e_iload_n (i := 1) 13 dX1_clear_12 rfl rfl rfl ?_
  refine e_bipush 15 dX1_clear_13 (by decide) rfl ?_
  refine e_icmp_ge 18 35 dX1_clear_15 (by decide) (by decide) (by decide) rfl (fun h => absurd h (by decide)) (fun _ => ?_)
  refine e_aload_n (i := 0) 19 dX1_clear_18 rfl rfl rfl ?_
  refine e_getr (j := 4) 22 fl_1_21 dX1_clear_19 hk rfl rfl hN rfl ?_
  refine e_iload_n (i := 1) 23 dX1_clear_22 rfl rfl rfl ?_
  refine e_getsN 26 (i := 0) (by decide) (by decide +kernel) dX1_clear_23 rfl ?_
  refine e_iload_n (i := 1) 27 dX1_clear_26 rfl rfl rfl ?_
  refine f_tald 28 (i := 0) (v := 0) (by decide) dX1_clear_27 (by decide) (by decide) rfl rfl ?_
  refine f_iast0 29 dX1_clear_28 ha (by decide) (by decide) (by decide) (by simp (disch := omega) only [jset_j, hM]) rfl ?_
  refine e_iinc (lsn := [(1, jI 5), (0, jR k)]) 32 dX1_clear_29 rfl (by decide) rfl rfl ?_
  refine e_goto 12 dX1_clear_32 (by decide) ?_
  refine e_iload_n (i := 1) 13 dX1_clear_12 rfl rfl rfl ?_
  refine e_bipush 15 dX1_clear_13 (by decide) rfl ?_
  refine e_icmp_ge 18 35 dX1_clear_15 (by decide) (by decide) (by decide) rfl (fun h => absurd h (by decide)) (fun _ => ?_)
  refine e_aload_n (i := 0) 19 dX1_clear_18 rfl rfl rfl ?_
  refine e_getr (j := 4) 22 fl_1_21 dX1_clear_19 hk rfl rfl hN rfl ?_
  refine e_iload_n (i := 1) 23 dX1_clear_22 rfl rfl rfl ?_
  refine e_getsN 26 (i := 0) (by decide) (by decide +kernel) dX1_clear_23 rfl ?_
  refine e_iload_n (i := 1) 27 dX1_clear_26 rfl rfl rfl ?_
  refine f_tald 28 (i := 0) (v := 2) (by decide) dX1_clear_27 (by decide) (by decide) rfl rfl ?_
  refine e_iast 29 dX1_clear_28 ha (by decide) (by decide) (by decide) rfl ?_
  refine e_iinc (lsn := [(1, jI 6), (0, jR k)]) 32 dX1_clear_29 rfl (by decide) rfl rfl ?_
  refine e_goto 12 dX1_clear_32 (by decide) ?_
  refine e_iload_n (i := 1) 13 dX1_clear_12 rfl rfl rfl ?_
  refine e_bipush 15 dX1_clear_13 (by decide) rfl ?_
  refine e_icmp_ge 18 35 dX1_clear_15 (by decide) (by decide) (by decide) rfl (fun _ => ?_) (fun h => absurd h (by decide))
  exact e_vretG dX1_clear_35 ⟨rfl, rfl, rfl⟩
theorem k_Law {X : jX} {n : Nat} {N : jN} {M : jM} {k : Int} (hk : 0 ≤ k) (hn : (n : Int) = k + 1) (hs0 : jsh k = (1, 6)) (hs1 : jsh (k + 1) = (13, 8)) (hs2 : jsh (k + 2) = (13, 8)) (hs3 : jsh (k + 3) = (13, 8)) (hs4 : jsh (k + 4) = (13, 6))(hM : ∀ k1 j : Int, k < k1 → M k1 j = 0) (hM0 : M k 0 = 0) (hM5 : M k 5 = 0) : jMet X yX1_init cX1_init 1 none 2 4 30 [jR k] n N M (jKx (n + 4) (lawN k N) (lawM k M)) := by
  refine jMet_of mt_yX1_init (Nat.le_of_ble_eq_true rfl) ?_
  refine e_aload_n (i := 0) 1 dX1_init_0 rfl rfl rfl ?_
  refine e_objI 4 wd_39 wd_26 wd_27 dX1_init_1 ⟨by decide, by decide⟩ (Nat.le_of_ble_eq_true rfl) rfl ?_
  refine e_aload_n (i := 0) 5 dX1_init_4 rfl rfl rfl ?_
  refine e_bipush 7 dX1_init_5 (by decide) rfl ?_
  refine f_newarr 9 (n + 1) 1 8 (k := (k + 1)) (t := 0) (zn := 8) (atype := .int) (by decide) rfl wd_74 dX1_init_7 (by decide) rfl (by omega) hs1 (fun j => by simp (disch := omega) only [jset_k, hM]) (by omega) rfl rfl (by decide) (by decide) rfl ?_
  refine e_putr (j := 1) 12 fl_1_9 dX1_init_9 ⟨by omega, by omega, hs0⟩ rfl rfl rfl rfl rfl rfl ?_
  refine e_aload_n (i := 0) 13 dX1_init_12 rfl rfl rfl ?_
  refine e_bipush 15 dX1_init_13 (by decide) rfl ?_
  refine f_newarr 17 (n + 2) 2 16 (k := (k + 2)) (t := 0) (zn := 8) (atype := .int) (by decide) rfl wd_74 dX1_init_15 (by decide) rfl (by omega) hs2 (fun j => by simp (disch := omega) only [jset_k, hM]) (by omega) rfl rfl (by decide) (by decide) rfl ?_
  refine e_putr (j := 2) 20 fl_1_15 dX1_init_17 ⟨by omega, by omega, hs0⟩ rfl rfl rfl rfl rfl rfl ?_
  refine e_aload_n (i := 0) 21 dX1_init_20 rfl rfl rfl ?_
  refine e_bipush 23 dX1_init_21 (by decide) rfl ?_
  refine f_newarr 25 (n + 3) 3 24 (k := (k + 3)) (t := 0) (zn := 8) (atype := .int) (by decide) rfl wd_74 dX1_init_23 (by decide) rfl (by omega) hs3 (fun j => by simp (disch := omega) only [jset_k, hM]) (by omega) rfl rfl (by decide) (by decide) rfl ?_
  refine e_putr (j := 3) 28 fl_1_18 dX1_init_25 ⟨by omega, by omega, hs0⟩ rfl rfl rfl rfl rfl rfl ?_
  refine e_aload_n (i := 0) 29 dX1_init_28 rfl rfl rfl ?_
  refine e_bipush 31 dX1_init_29 (by decide) rfl ?_
  refine f_newarr 33 (n + 4) 4 30 (k := (k + 4)) (t := 0) (zn := 6) (atype := .int) (by decide) rfl wd_74 dX1_init_31 (by decide) rfl (by omega) hs4 (fun j => by simp (disch := omega) only [jset_k, hM]) (by omega) rfl rfl (by decide) (by decide) rfl ?_
  refine e_putr (j := 4) 36 fl_1_21 dX1_init_33 ⟨by omega, by omega, hs0⟩ rfl rfl rfl rfl rfl rfl ?_
  refine e_aload_n (i := 0) 37 dX1_init_36 rfl rfl rfl ?_
  refine e_callVG (av := []) (K := jKx (n + 4) _ _) (mc := 0) (ms := 0) 40 mt_yX1_clear mv_yX1_clear wd_40 (Nat.le_of_ble_eq_true rfl) dX1_init_37 ⟨by omega, by omega, hs0⟩ jc_1 rfl rfl rfl (Nat.le_of_ble_eq_true rfl) ⟨by decide, by decide, by decide, by decide⟩ rfl (k_clear ⟨by omega, by omega, hs0⟩ ⟨by omega, by omega, hs4, by decide, by decide⟩ (by simp (disch := omega) only [jsetN_same]) hM0 hM5 (fun j => hM _ _ (by omega))) (fun _ _ _ _ h => ?_)
  obtain ⟨rfl, rfl, rfl⟩ := h
  refine ⟨rfl, ?_⟩
  exact e_vretG dX1_init_40 ⟨rfl, rfl, rfl⟩
theorem k_Looks {X : jX} {n : Nat} {N : jN} {M : jM} {k : Int} (hk : 0 ≤ k) (hn : (n : Int) = k + 1) (hs0 : jsh k = (2, 5)) (hs1 : jsh (k + 1) = (13, 9)) (hs2 : jsh (k + 2) = (13, 400)) (hs3 : jsh (k + 3) = (13, 400))(hM : ∀ k1 j : Int, k < k1 → M k1 j = 0) : jMet X yX2_init cX2_init 1 none 1 3 809 [jR k] n N M (jKx (n + 3) (looksN k N) M) := by
  refine jMet_of mt_yX2_init (Nat.le_of_ble_eq_true rfl) ?_
  refine e_aload_n (i := 0) 1 dX2_init_0 rfl rfl rfl ?_
  refine e_objI 4 wd_80 wd_26 wd_27 dX2_init_1 ⟨by decide, by decide⟩ (Nat.le_of_ble_eq_true rfl) rfl ?_
  refine e_aload_n (i := 0) 5 dX2_init_4 rfl rfl rfl ?_
  refine e_bipush 7 dX2_init_5 (by decide) rfl ?_
  refine f_newarr 9 (n + 1) 1 9 (k := (k + 1)) (t := 0) (zn := 9) (atype := .int) (by decide) rfl wd_74 dX2_init_7 (by decide) rfl (by omega) hs1 (fun j => by simp (disch := omega) only [jset_k, hM]) (by omega) rfl rfl (by decide) (by decide) rfl ?_
  refine e_putr (j := 2) 12 fl_2_9 dX2_init_9 ⟨by omega, by omega, hs0⟩ rfl rfl rfl rfl rfl rfl ?_
  refine e_aload_n (i := 0) 13 dX2_init_12 rfl rfl rfl ?_
  refine e_sipush 16 dX2_init_13 (by decide) rfl ?_
  refine f_newarr 18 (n + 2) 2 409 (k := (k + 2)) (t := 0) (zn := 400) (atype := .int) (by decide) rfl wd_74 dX2_init_16 (by decide) rfl (by omega) hs2 (fun j => by simp (disch := omega) only [jset_k, hM]) (by omega) rfl rfl (by decide) (by decide) rfl ?_
  refine e_putr (j := 3) 21 fl_2_15 dX2_init_18 ⟨by omega, by omega, hs0⟩ rfl rfl rfl rfl rfl rfl ?_
  refine e_aload_n (i := 0) 22 dX2_init_21 rfl rfl rfl ?_
  refine e_sipush 25 dX2_init_22 (by decide) rfl ?_
  refine f_newarr 27 (n + 3) 3 809 (k := (k + 3)) (t := 0) (zn := 400) (atype := .int) (by decide) rfl wd_74 dX2_init_25 (by decide) rfl (by omega) hs3 (fun j => by simp (disch := omega) only [jset_k, hM]) (by omega) rfl rfl (by decide) (by decide) rfl ?_
  refine e_putr (j := 4) 30 fl_2_18 dX2_init_27 ⟨by omega, by omega, hs0⟩ rfl rfl rfl rfl rfl rfl ?_
  exact e_vretG dX2_init_30 ⟨rfl, rfl, rfl⟩
theorem k_Tape {X : jX} {n : Nat} {N : jN} {M : jM} {k : Int} (hk : 0 ≤ k) (hn : (n : Int) = k + 1) (hs0 : jsh k = (9, 7)) (hs1 : jsh (k + 1) = (14, 400))(hM : ∀ k1 j : Int, k < k1 → M k1 j = 0) : jMet X yX9_init cX9_init 1 none 1 1 400 [jR k] n N M (jKx (n + 1) (tapeN k N) M) := by
  refine jMet_of mt_yX9_init (Nat.le_of_ble_eq_true rfl) ?_
  refine e_aload_n (i := 0) 1 dX9_init_0 rfl rfl rfl ?_
  refine e_objI 4 wd_374 wd_26 wd_27 dX9_init_1 ⟨by decide, by decide⟩ (Nat.le_of_ble_eq_true rfl) rfl ?_
  refine e_aload_n (i := 0) 5 dX9_init_4 rfl rfl rfl ?_
  refine e_sipush 8 dX9_init_5 (by decide) rfl ?_
  refine f_newarr 10 (n + 1) 1 400 (k := (k + 1)) (t := 1) (zn := 400) (atype := .byte) (by decide) rfl wd_402 dX9_init_8 (by decide) rfl (by omega) hs1 (fun j => by simp (disch := omega) only [jset_k, hM]) (by omega) rfl rfl (by decide) (by decide) rfl ?_
  refine e_putr (j := 0) 13 fl_9_9 dX9_init_10 ⟨by omega, by omega, hs0⟩ rfl rfl rfl rfl rfl rfl ?_
  exact e_vretG dX9_init_13 ⟨rfl, rfl, rfl⟩
theorem k_Row {X : jX} {n : Nat} {N : jN} {M : jM} {k : Int} (hk : 0 ≤ k) (hn : (n : Int) = k + 1) (hs0 : jsh k = (7, 3)) (hs1 : jsh (k + 1) = (16, 40))(hM : ∀ k1 j : Int, k < k1 → M k1 j = 0) : jMet X yX7_init cX7_init 1 none 1 1 40 [jR k] n N M (jKx (n + 1) (rowN k N) (rowM k M)) := by
  refine jMet_of mt_yX7_init (Nat.le_of_ble_eq_true rfl) ?_
  refine e_aload_n (i := 0) 1 dX7_init_0 rfl rfl rfl ?_
  refine e_objI 4 wd_437 wd_26 wd_27 dX7_init_1 ⟨by decide, by decide⟩ (Nat.le_of_ble_eq_true rfl) rfl ?_
  refine e_aload_n (i := 0) 5 dX7_init_4 rfl rfl rfl ?_
  refine e_iconst 6 dX7_init_5 rfl ?_
  refine e_puti (j := 0) 9 fl_7_9 dX7_init_6 ⟨by omega, by omega, hs0⟩ rfl rfl rfl (by decide) rfl ?_
  refine e_aload_n (i := 0) 10 dX7_init_9 rfl rfl rfl ?_
  refine e_bipush 12 dX7_init_10 (by decide) rfl ?_
  refine f_newarr 14 (n + 1) 1 40 (k := (k + 1)) (t := 3) (zn := 40) (atype := .long) (by decide) rfl wd_449 dX7_init_12 (by decide) rfl (by omega) hs1 (fun j => by simp (disch := omega) only [jset_k, hM]) (by omega) rfl rfl (by decide) (by decide) rfl ?_
  refine e_putr (j := 2) 17 fl_7_15 dX7_init_14 ⟨by omega, by omega, hs0⟩ rfl rfl rfl rfl rfl rfl ?_
  exact e_vretG dX7_init_17 ⟨rfl, rfl, rfl⟩
