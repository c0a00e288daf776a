/-! THE LAW: the loop, and how it begins -/
theorem jand_bnd (a b : Int) : -2147483648 ≤ jand a b ∧ jand a b ≤ 2147483647 := by
  unfold jand
  exact i32_bnd _
theorem jcell_int {X : jX} {N N' : jN} {M : jM} {k : Int} (h : 13 ≤ (jsh k).1 ∧ (jsh k).1 < 17) : jcell X N M k = jcell X N' M k := by
  unfold jcell
  rw [if_neg (by omega), if_neg (by omega)]
  unfold jar
  by_cases c : (jsh k).1 < 16
  · rw [if_pos c, if_pos c]
  · rw [if_neg c, if_neg c, if_pos (by omega), if_pos (by omega)]
theorem first_jws {X : jX} {M : jM} : jws X FN M 949 = jws X topo M 949 := by
  unfold jws
  refine List.map_congr_left (fun k hk => ?_)
  have h := List.mem_range.mp hk
  have e : jcell X FN M (k : Int) = jcell X topo M (k : Int) := by
    by_cases c : 13 ≤ (jsh (k : Int)).1 ∧ (jsh (k : Int)).1 < 17
    · exact jcell_int c
    · exact jcell_ne (fun j => first_topo (k : Int) (by omega) (by omega) (by omega) j) (fun _ => rfl)
  rw [e]
theorem e_first {X : jX} {y : MethodName} {cc : ByteArray} {mL : Nat} {ret : Option FieldType} {R : Room} {QF : jQF} {cells slots : Nat} {M : jM} {pc : Nat} {ls : List (Nat × jV)} {st : List jV} (kk : gE X y cc mL ret R QF cells slots 949 topo M pc ls st) : gE X y cc mL ret R QF cells slots 949 FN M pc ls st := by
  intro p l e s m args below meth c H locs lsA C hz hR hS hl
  refine kk p l e s m args below meth c H locs lsA C hz ⟨?_, hR.2⟩ hS hl
  rw [← first_jws]
  exact hR.1
theorem law_loop {X : jX} {nm : String} {ret : Option FieldType} {R : Room} {QF : jQF} {cells slots : Nat} (hF : 68 ≤ R.frames) (hL : 7000 ≤ R.locals) (hC : cells ≤ R.cells) (hS : slots ≤ R.slots) (h2 : (X.2.2.2.2.1 : Int) < 100000) (hend : ∀ (M : jM) (i : Int), gE X (yl nm) cL_law 4 ret R QF cells slots 949 topo M 2166 (lwl i) []) : ∀ (m : Nat) (i : Int) (M : jM), 0 ≤ i → i ≤ 200000 → (X.2.2.2.2.1 : Int) - i ≤ m → Inv M → gE X (yl nm) cL_law 4 ret R QF cells slots 949 topo M 18 (lwl i) []
  | m, i, M, h0, hi, hm, hI => by
    refine e_iload_n (i := 3) 19 dL_law_18 rfl rfl rfl ?_
    refine e_aloadF_n (i := 0) 20 dL_law_19 rfl rfl rfl ?_
    refine e_slen 21 dL_law_20 h2 rfl ?_
    refine e_bipush 23 dL_law_21 (by decide) rfl ?_
    refine e_isub 24 dL_law_23 rfl ?_
    refine e_icmp_gt 27 2166 dL_law_24 (by omega) (by omega) (by decide) rfl (fun _ => hend M i) (fun h => ?_)
    match m, hm with
    | 0, hm => exact absurd h (by omega)
    | m + 1, hm =>
      have h1 : i + 7 ≤ (X.2.2.2.2.1 : Int) := by omega
      have kk : ∀ M2 : jM, Inv M2 → gE X (yl nm) cL_law 4 ret R QF cells slots 949 topo M2 2160 (lwl i) [] := fun M2 hI2 => by
        refine e_iinc (lsn := lwl (i + 7)) 2163 dL_law_2160 rfl (by decide) rfl rfl ?_
        refine e_goto 18 dL_law_2163 (by decide) ?_
        exact law_loop hF hL hC hS h2 hend m (i + 7) M2 (by omega) (by omega) (by omega) hI2
      refine e_aloadF_n (i := 0) 28 dL_law_27 rfl rfl rfl ?_
      refine e_iload_n (i := 3) 29 dL_law_28 rfl rfl rfl ?_
      refine e_sald 30 dL_law_29 (by omega) (by omega) h2 rfl ?_
      refine e_bipush 32 dL_law_30 (by decide) rfl ?_
      refine e_iand 33 dL_law_32 rfl ?_
      refine e_tsw 2160 dL_law_33 (jand_bnd _ _) (by decide) (fun c0 hc hz => ?_) (fun _ => kk M hI)
      have c : c0 = 0 ∨ c0 = 1 ∨ c0 = 2 ∨ c0 = 3 ∨ c0 = 4 ∨ c0 = 5 ∨ c0 = 6 ∨ c0 = 7 ∨ c0 = 8 ∨ c0 = 9 ∨ c0 = 10 ∨ c0 = 11 ∨ c0 = 12 ∨ c0 = 13 ∨ c0 = 14 ∨ c0 = 15 ∨ c0 = 16 ∨ c0 = 17 ∨ c0 = 18 ∨ c0 = 19 ∨ c0 = 20 ∨ c0 = 21 ∨ c0 = 22 ∨ c0 = 23 ∨ c0 = 24 ∨ c0 = 25 ∨ c0 = 26 ∨ c0 = 27 ∨ c0 = 28 ∨ c0 = 29 ∨ c0 = 30 ∨ c0 = 31 ∨ c0 = 32 ∨ c0 = 33 ∨ c0 = 34 ∨ c0 = 35 ∨ c0 = 36 ∨ c0 = 37 ∨ c0 = 38 ∨ c0 = 39 ∨ c0 = 40 ∨ c0 = 41 ∨ c0 = 42 ∨ c0 = 43 ∨ c0 = 44 ∨ c0 = 45 ∨ c0 = 46 ∨ c0 = 47 ∨ c0 = 48 ∨ c0 = 49 ∨ c0 = 50 ∨ c0 = 51 := by omega
      rcases c with c | c | c | c | c | c | c | c | c | c | c | c | c | c | c | c | c | c | c | c | c | c | c | c | c | c | c | c | c | c | c | c | c | c | c | c | c | c | c | c | c | c | c | c | c | c | c | c | c | c | c | c
      · subst c
        exact ⟨223, 256, rfl, by decide, lc_0 hF hL hC hS h2 h0 h1 hI kk⟩
      · subst c
        exact ⟨286, 319, rfl, by decide, lc_1 hF hL hC hS h2 h0 h1 hI kk⟩
      · subst c
        exact ⟨319, 352, rfl, by decide, lc_2 hF hL hC hS h2 h0 h1 hI kk⟩
      · subst c
        exact ⟨342, 375, rfl, by decide, lc_3 hF hL hC hS h2 h0 h1 hI kk⟩
      · subst c
        exact ⟨355, 388, rfl, by decide, lc_4 hF hL hC hS h2 h0 h1 hI kk⟩
      · subst c
        exact ⟨408, 441, rfl, by decide, lc_5 hF hL hC hS h2 h0 h1 hI kk⟩
      · subst c
        exact ⟨487, 520, rfl, by decide, lc_6 hF hL hC hS h2 h0 h1 hI kk⟩
      · subst c
        exact ⟨540, 573, rfl, by decide, lc_7 hF hL hC hS h2 h0 h1 hI kk⟩
      · subst c
        exact ⟨563, 596, rfl, by decide, lc_8 hF hL hC hS h2 h0 h1 hI kk⟩
      · subst c
        exact ⟨586, 619, rfl, by decide, lc_9 hF hL hC hS h2 h0 h1 hI kk⟩
      · subst c
        exact ⟨629, 662, rfl, by decide, lc_10 hF hL hC hS h2 h0 h1 hI kk⟩
      · subst c
        exact ⟨652, 685, rfl, by decide, lc_11 hF hL hC hS h2 h0 h1 hI kk⟩
      · subst c
        exact ⟨685, 718, rfl, by decide, lc_12 hF hL hC hS h2 h0 h1 hI kk⟩
      · subst c
        exact ⟨708, 741, rfl, by decide, lc_13 hF hL hC hS h2 h0 h1 hI kk⟩
      · subst c
        exact ⟨731, 764, rfl, by decide, lc_14 hF hL hC hS h2 h0 h1 hI kk⟩
      · subst c
        exact ⟨754, 787, rfl, by decide, lc_15 hF hL hC hS h2 h0 h1 hI kk⟩
      · subst c
        exact ⟨797, 830, rfl, by decide, lc_16 hF hL hC hS h2 h0 h1 hI kk⟩
      · subst c
        exact ⟨830, 863, rfl, by decide, lc_17 hF hL hC hS h2 h0 h1 hI kk⟩
      · subst c
        exact ⟨853, 886, rfl, by decide, lc_18 hF hL hC hS h2 h0 h1 hI kk⟩
      · subst c
        exact ⟨886, 919, rfl, by decide, lc_19 hF hL hC hS h2 h0 h1 hI kk⟩
      · subst c
        exact ⟨909, 942, rfl, by decide, lc_20 hF hL hC hS h2 h0 h1 hI kk⟩
      · subst c
        exact ⟨952, 985, rfl, by decide, lc_21 hF hL hC hS h2 h0 h1 hI kk⟩
      · subst c
        exact ⟨1006, 1039, rfl, by decide, lc_22 hF hL hC hS h2 h0 h1 hI kk⟩
      · subst c
        exact ⟨1039, 1072, rfl, by decide, lc_23 hF hL hC hS h2 h0 h1 hI kk⟩
      · subst c
        exact ⟨1072, 1105, rfl, by decide, lc_24 hF hL hC hS h2 h0 h1 hI kk⟩
      · subst c
        exact ⟨1105, 1138, rfl, by decide, lc_25 hF hL hC hS h2 h0 h1 hI kk⟩
      · subst c
        exact ⟨1148, 1181, rfl, by decide, lc_26 hF hL hC hS h2 h0 h1 hI kk⟩
      · subst c
        exact ⟨1211, 1244, rfl, by decide, lc_27 hF hL hC hS h2 h0 h1 hI kk⟩
      · subst c
        exact ⟨1264, 1297, rfl, by decide, lc_28 hF hL hC hS h2 h0 h1 hI kk⟩
      · subst c
        exact ⟨1297, 1330, rfl, by decide, lc_29 hF hL hC hS h2 h0 h1 hI kk⟩
      · subst c
        exact ⟨1330, 1363, rfl, by decide, lc_30 hF hL hC hS h2 h0 h1 hI kk⟩
      · subst c
        exact ⟨1353, 1386, rfl, by decide, lc_31 hF hL hC hS h2 h0 h1 hI kk⟩
      · subst c
        exact ⟨1386, 1419, rfl, by decide, lc_32 hF hL hC hS h2 h0 h1 hI kk⟩
      · subst c
        exact ⟨1409, 1442, rfl, by decide, lc_33 hF hL hC hS h2 h0 h1 hI kk⟩
      · subst c
        exact ⟨1442, 1475, rfl, by decide, lc_34 hF hL hC hS h2 h0 h1 hI kk⟩
      · subst c
        exact ⟨1475, 1508, rfl, by decide, lc_35 hF hL hC hS h2 h0 h1 hI kk⟩
      · subst c
        exact ⟨1550, 1583, rfl, by decide, lc_36 hF hL hC hS h2 h0 h1 hI kk⟩
      · subst c
        exact ⟨1573, 1606, rfl, by decide, lc_37 hF hL hC hS h2 h0 h1 hI kk⟩
      · subst c
        exact ⟨1648, 1681, rfl, by decide, lc_38 hF hL hC hS h2 h0 h1 hI kk⟩
      · subst c
        exact ⟨1691, 1724, rfl, by decide, lc_39 hF hL hC hS h2 h0 h1 hI kk⟩
      · subst c
        exact ⟨1724, 1757, rfl, by decide, lc_40 hF hL hC hS h2 h0 h1 hI kk⟩
      · subst c
        exact ⟨1747, 1780, rfl, by decide, lc_41 hF hL hC hS h2 h0 h1 hI kk⟩
      · subst c
        exact ⟨1790, 1823, rfl, by decide, lc_42 hF hL hC hS h2 h0 h1 hI kk⟩
      · subst c
        exact ⟨1823, 1856, rfl, by decide, lc_43 hF hL hC hS h2 h0 h1 hI kk⟩
      · subst c
        exact ⟨1862, 1895, rfl, by decide, lc_44 hF hL hC hS h2 h0 h1 hI kk⟩
      · subst c
        exact ⟨1895, 1928, rfl, by decide, lc_45 hF hL hC hS h2 h0 h1 hI kk⟩
      · subst c
        exact ⟨1918, 1951, rfl, by decide, lc_46 hF hL hC hS h2 h0 h1 hI kk⟩
      · subst c
        exact ⟨1961, 1994, rfl, by decide, lc_47 hF hL hC hS h2 h0 h1 hI kk⟩
      · subst c
        exact ⟨2035, 2068, rfl, by decide, lc_48 hF hL hC hS h2 h0 h1 hI kk⟩
      · subst c
        exact ⟨2058, 2091, rfl, by decide, lc_49 hF hL hC hS h2 h0 h1 hI kk⟩
      · subst c
        exact ⟨2081, 2114, rfl, by decide, lc_50 hF hL hC hS h2 h0 h1 hI kk⟩
      · subst c
        exact ⟨2104, 2137, rfl, by decide, lc_51 hF hL hC hS h2 h0 h1 hI kk⟩
theorem classN_k {k j : Int} {N : jN} (h : 928 ≤ k) : classN N k j = N k j := by
  unfold classN
  simp (disch := omega) only [jsetN_k, shopN_k, readerN_k, rowN_k, plannerN_k]
theorem classM_k {k j : Int} {M : jM} (h : 928 ≤ k) : classM M k j = M k j := by
  unfold classM plannerM
  simp (disch := omega) only [shopM_k, readerM_k, rowM_k]
theorem law_init {X : jX} {nm : String} {ret : Option FieldType} {R : Room} {QF : jQF} (hF : 68 ≤ R.frames) (hL : 7000 ≤ R.locals) (hC : 949 ≤ R.cells) (hS : 30708 ≤ R.slots) (h2 : (X.2.2.2.2.1 : Int) < 100000) (hend : ∀ (M : jM) (i : Int), gE X (yl nm) cL_law 4 ret R QF 949 30708 949 topo M 2166 (lwl i) []) : gE X (yl nm) cL_law 4 ret R QF 0 0 0 nN zM 0 [(0, jF 60)] [] := by
  refine f_new 3 1 1 6 (k := 0) jc_11 wd_20 wd_21 wd_1 dL_law_0 rfl (by decide +kernel) (fun _ => rfl) (fun _ => rfl) rfl rfl rfl (by omega) (by omega) rfl ?_
  refine e_dup 4 dL_law_3 rfl rfl ?_
  refine f_callIL 7 928 928 16993 mt_yX11_init rfl mi_yX11_init wd_22 (Nat.le_of_ble_eq_true rfl) dL_law_4 (Nat.le_of_ble_eq_true rfl) ⟨by omega, by omega, by omega, by omega⟩ (k_Class (fun _ _ _ => rfl) (fun _ _ _ => rfl)) rfl rfl rfl rfl ?_
  refine e_astore_n (i := 1) (lsn := [(1, jR 0), (0, jF 60)]) 8 dL_law_7 rfl (by decide) rfl rfl ?_
  refine f_new 11 929 929 17027 (k := 928) jc_12 wd_1273 wd_1274 wd_13 dL_law_8 rfl (by decide +kernel) (fun _ => (classM_k (by omega)).trans rfl) (fun _ => (classN_k (by omega)).trans rfl) rfl rfl rfl (by omega) (by omega) rfl ?_
  refine e_dup 12 dL_law_11 rfl rfl ?_
  refine f_callIL 15 949 949 30708 mt_yX12_init rfl mi_yX12_init wd_1275 (Nat.le_of_ble_eq_true rfl) dL_law_12 (Nat.le_of_ble_eq_true rfl) ⟨by omega, by omega, by omega, by omega⟩ (k_Model (fun _ _ h => (classN_k (by omega)).trans rfl) (fun _ _ h => (classM_k (by omega)).trans rfl)) rfl rfl rfl rfl ?_
  refine e_first ?_
  refine e_astore_n (i := 2) (lsn := [(2, jR 928), (1, jR 0), (0, jF 60)]) 16 dL_law_15 rfl (by decide) rfl rfl ?_
  refine e_iconst 17 dL_law_16 rfl ?_
  refine e_istore_n (i := 3) (lsn := lwl 0) 18 dL_law_17 rfl (by decide) rfl rfl ?_
  exact law_loop hF hL hC hS h2 hend X.2.2.2.2.1 0 _ (by decide) (by decide) (by omega) first_Inv
