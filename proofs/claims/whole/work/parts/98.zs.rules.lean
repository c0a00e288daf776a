/-! CONSTRUCTORS: shop -/
theorem rowsS_20 {i : Int} (h0 : 0 ≤ i) (h1 : i < 10) : jshS (20 + i) = (13, 2) := by
  have : i = 0 ∨ i = 1 ∨ i = 2 ∨ i = 3 ∨ i = 4 ∨ i = 5 ∨ i = 6 ∨ i = 7 ∨ i = 8 ∨ i = 9 := by omega
  rcases this with h | h | h | h | h | h | h | h | h | h <;> subst h <;> decide +kernel
theorem rowsS_31 {i : Int} (h0 : 0 ≤ i) (h1 : i < 6) : jshS (31 + i) = (13, 301) := by
  have : i = 0 ∨ i = 1 ∨ i = 2 ∨ i = 3 ∨ i = 4 ∨ i = 5 := by omega
  rcases this with h | h | h | h | h | h <;> subst h <;> decide +kernel
theorem rowsS_38 {i : Int} (h0 : 0 ≤ i) (h1 : i < 4) : jshS (38 + i) = (13, 5) := by
  have : i = 0 ∨ i = 1 ∨ i = 2 ∨ i = 3 := by omega
  rcases this with h | h | h | h <;> subst h <;> decide +kernel
theorem rowsS_43 {i : Int} (h0 : 0 ≤ i) (h1 : i < 12) : jshS (43 + i) = (13, 2) := by
  have : i = 0 ∨ i = 1 ∨ i = 2 ∨ i = 3 ∨ i = 4 ∨ i = 5 ∨ i = 6 ∨ i = 7 ∨ i = 8 ∨ i = 9 ∨ i = 10 ∨ i = 11 := by omega
  rcases this with h | h | h | h | h | h | h | h | h | h | h | h <;> subst h <;> decide +kernel
theorem sh_Kind {i : Int} (h0 : 0 ≤ i) (h1 : i < 12) : jshS (55 + i) = (0, 5) := by
  unfold jshS
  rw [if_neg (by omega), if_pos (by omega)]
theorem lp_Kind {X : jX} {QF : jQF} {n : Nat} {k : Int} {N : jN} {M : jM} (hk : 0 ≤ k) (hn : (n : Int) = k + 1) (hs0 : jsh k = (8, 20)) (hb : ∀ i : Int, 0 ≤ i → i < 293 → jsh (k + i) = jshS i) (hN : ∀ k1 j : Int, k + 55 ≤ k1 → N k1 j = none) (hM : ∀ k1 j : Int, k + 55 ≤ k1 → M k1 j = 0) (hf : N k 5 = some (k + 15))
    (hx : gE X yX8_init cX8_init 2 none (jrm 3 292 4546) QF (54 + 12) (3026 + 5 * 12) (n + 54 + 12) (jrA N (k + 15) (k + 55) 12) M 146 [(1, jI 12), (0, jR k)] []) : ∀ (m i : Nat), i + m = 12 → gE X yX8_init cX8_init 2 none (jrm 3 292 4546) QF (54 + i) (3026 + 5 * i) (n + 54 + i) (jrA N (k + 15) (k + 55) i) M 121 [(1, jI (i : Int)), (0, jR k)] []
  | m, i, he => by
    refine e_iload_n (i := 1) 122 dX8_init_121 rfl rfl rfl ?_
    refine e_bipush 124 dX8_init_122 (by decide) rfl ?_
    refine e_icmp_ge 127 146 dX8_init_124 (by omega) (by decide) (by decide) rfl (fun h => ?_) (fun h => ?_)
    · have e : i = 12 := by omega
      subst e
      exact hx
    · match m, he with
      | 0, he => exact absurd h (by omega)
      | m + 1, he =>
        refine e_aload_n (i := 0) 128 dX8_init_127 rfl rfl rfl ?_
        refine e_getr (j := 5) (k2 := (k + 15)) 131 fl_8_30 dX8_init_128 ⟨by omega, by omega, hs0⟩ rfl rfl ((jrA_k (by omega)).trans hf) rfl ?_
        refine e_iload_n (i := 1) 132 dX8_init_131 rfl rfl rfl ?_
        refine f_new 135 (n + 54 + (i + 1)) (54 + (i + 1)) (3026 + 5 * (i + 1)) (k := k + 55 + i) jc_0 wd_99 wd_109 wd_5 dX8_init_132 (by omega) ((congrArg jsh (show k + 55 + (i : Int) = k + (55 + (i : Int)) by omega)).trans ((hb (55 + (i : Int)) (by omega) (by omega)).trans (sh_Kind (by omega) (by omega)))) (fun j => hM _ _ (by omega)) (fun j => (jrA_k (by omega)).trans (hN _ _ (by omega))) (by omega) (by omega) (by show _ + 5 = _; omega) (by show _ ≤ 292; omega) (by show _ ≤ 4546; omega) rfl ?_
        refine e_dup 136 dX8_init_135 rfl rfl ?_
        refine f_callI 139 (n + 54 + (i + 1)) (54 + (i + 1)) (3026 + 5 * (i + 1)) mt_yX0_init rfl mi_yX0_init (by decide +kernel) (Nat.le_of_ble_eq_true rfl) dX8_init_136 (Nat.le_of_ble_eq_true rfl) ⟨by decide, by decide, by show _ ≤ 292; omega, by show _ ≤ 4546; omega⟩ k_Kind rfl rfl rfl rfl ?_
        refine e_astq (z := 12) (t := 4) (ci := 0) 140 dX8_init_139 (by decide) ⟨by omega, by omega, ((hb 15 (by decide) (by decide)).trans (by decide +kernel)), by decide, by decide⟩ jc_0 rfl ⟨by omega, by omega, ((congrArg jsh (show k + 55 + (i : Int) = k + (55 + (i : Int)) by omega)).trans ((hb (55 + (i : Int)) (by omega) (by omega)).trans (sh_Kind (by omega) (by omega))))⟩ (by omega) (by omega) rfl ?_
        rw [jrA_s (by omega) rfl rfl]
        refine e_iinc (lsn := [(1, jI (((i + 1 : Nat) : Int))), (0, jR k)]) 143 dX8_init_140 rfl (by decide) rfl rfl ?_
        refine e_goto 121 dX8_init_143 (by decide) ?_
        exact lp_Kind hk hn hs0 hb hN hM hf hx m (i + 1) (by omega)
theorem sh_Person {i : Int} (h0 : 0 ≤ i) (h1 : i < 16) : jshS (67 + i) = (3, 5) := by
  unfold jshS
  rw [if_neg (by omega), if_neg (by omega), if_pos (by omega)]
theorem lp_Person {X : jX} {QF : jQF} {n : Nat} {k : Int} {N : jN} {M : jM} (hk : 0 ≤ k) (hn : (n : Int) = k + 1) (hs0 : jsh k = (8, 20)) (hb : ∀ i : Int, 0 ≤ i → i < 293 → jsh (k + i) = jshS i) (hN : ∀ k1 j : Int, k + 67 ≤ k1 → N k1 j = none) (hM : ∀ k1 j : Int, k + 67 ≤ k1 → M k1 j = 0) (hf : N k 7 = some (k + 16))
    (hx : gE X yX8_init cX8_init 2 none (jrm 3 292 4546) QF (66 + 16) (3086 + 5 * 16) (n + 66 + 16) (jrA N (k + 16) (k + 67) 16) M 173 [(1, jI 16), (0, jR k)] []) : ∀ (m i : Nat), i + m = 16 → gE X yX8_init cX8_init 2 none (jrm 3 292 4546) QF (66 + i) (3086 + 5 * i) (n + 66 + i) (jrA N (k + 16) (k + 67) i) M 148 [(1, jI (i : Int)), (0, jR k)] []
  | m, i, he => by
    refine e_iload_n (i := 1) 149 dX8_init_148 rfl rfl rfl ?_
    refine e_bipush 151 dX8_init_149 (by decide) rfl ?_
    refine e_icmp_ge 154 173 dX8_init_151 (by omega) (by decide) (by decide) rfl (fun h => ?_) (fun h => ?_)
    · have e : i = 16 := by omega
      subst e
      exact hx
    · match m, he with
      | 0, he => exact absurd h (by omega)
      | m + 1, he =>
        refine e_aload_n (i := 0) 155 dX8_init_154 rfl rfl rfl ?_
        refine e_getr (j := 7) (k2 := (k + 16)) 158 fl_8_36 dX8_init_155 ⟨by omega, by omega, hs0⟩ rfl rfl ((jrA_k (by omega)).trans hf) rfl ?_
        refine e_iload_n (i := 1) 159 dX8_init_158 rfl rfl rfl ?_
        refine f_new 162 (n + 66 + (i + 1)) (66 + (i + 1)) (3086 + 5 * (i + 1)) (k := k + 67 + i) jc_3 wd_101 wd_143 wd_6 dX8_init_159 (by omega) ((congrArg jsh (show k + 67 + (i : Int) = k + (67 + (i : Int)) by omega)).trans ((hb (67 + (i : Int)) (by omega) (by omega)).trans (sh_Person (by omega) (by omega)))) (fun j => hM _ _ (by omega)) (fun j => (jrA_k (by omega)).trans (hN _ _ (by omega))) (by omega) (by omega) (by show _ + 5 = _; omega) (by show _ ≤ 292; omega) (by show _ ≤ 4546; omega) rfl ?_
        refine e_dup 163 dX8_init_162 rfl rfl ?_
        refine f_callI 166 (n + 66 + (i + 1)) (66 + (i + 1)) (3086 + 5 * (i + 1)) mt_yX3_init rfl mi_yX3_init (by decide +kernel) (Nat.le_of_ble_eq_true rfl) dX8_init_163 (Nat.le_of_ble_eq_true rfl) ⟨by decide, by decide, by show _ ≤ 292; omega, by show _ ≤ 4546; omega⟩ k_Person rfl rfl rfl rfl ?_
        refine e_astq (z := 16) (t := 5) (ci := 3) 167 dX8_init_166 (by decide) ⟨by omega, by omega, ((hb 16 (by decide) (by decide)).trans (by decide +kernel)), by decide, by decide⟩ jc_3 rfl ⟨by omega, by omega, ((congrArg jsh (show k + 67 + (i : Int) = k + (67 + (i : Int)) by omega)).trans ((hb (67 + (i : Int)) (by omega) (by omega)).trans (sh_Person (by omega) (by omega))))⟩ (by omega) (by omega) rfl ?_
        rw [jrA_s (by omega) rfl rfl]
        refine e_iinc (lsn := [(1, jI (((i + 1 : Nat) : Int))), (0, jR k)]) 170 dX8_init_167 rfl (by decide) rfl rfl ?_
        refine e_goto 148 dX8_init_170 (by decide) ?_
        exact lp_Person hk hn hs0 hb hN hM hf hx m (i + 1) (by omega)
theorem sh_Pledge {i : Int} (h0 : 0 ≤ i) (h1 : i < 60) : jshS (83 + i) = (5, 13) := by
  unfold jshS
  rw [if_neg (by omega), if_neg (by omega), if_neg (by omega), if_pos (by omega)]
theorem lp_Pledge {X : jX} {QF : jQF} {n : Nat} {k : Int} {N : jN} {M : jM} (hk : 0 ≤ k) (hn : (n : Int) = k + 1) (hs0 : jsh k = (8, 20)) (hb : ∀ i : Int, 0 ≤ i → i < 293 → jsh (k + i) = jshS i) (hN : ∀ k1 j : Int, k + 83 ≤ k1 → N k1 j = none) (hM : ∀ k1 j : Int, k + 83 ≤ k1 → M k1 j = 0) (hf : N k 9 = some (k + 17))
    (hx : gE X yX8_init cX8_init 2 none (jrm 3 292 4546) QF (82 + 60) (3166 + 13 * 60) (n + 82 + 60) (jrA N (k + 17) (k + 83) 60) M 200 [(1, jI 60), (0, jR k)] []) : ∀ (m i : Nat), i + m = 60 → gE X yX8_init cX8_init 2 none (jrm 3 292 4546) QF (82 + i) (3166 + 13 * i) (n + 82 + i) (jrA N (k + 17) (k + 83) i) M 175 [(1, jI (i : Int)), (0, jR k)] []
  | m, i, he => by
    refine e_iload_n (i := 1) 176 dX8_init_175 rfl rfl rfl ?_
    refine e_bipush 178 dX8_init_176 (by decide) rfl ?_
    refine e_icmp_ge 181 200 dX8_init_178 (by omega) (by decide) (by decide) rfl (fun h => ?_) (fun h => ?_)
    · have e : i = 60 := by omega
      subst e
      exact hx
    · match m, he with
      | 0, he => exact absurd h (by omega)
      | m + 1, he =>
        refine e_aload_n (i := 0) 182 dX8_init_181 rfl rfl rfl ?_
        refine e_getr (j := 9) (k2 := (k + 17)) 185 fl_8_42 dX8_init_182 ⟨by omega, by omega, hs0⟩ rfl rfl ((jrA_k (by omega)).trans hf) rfl ?_
        refine e_iload_n (i := 1) 186 dX8_init_185 rfl rfl rfl ?_
        refine f_new 189 (n + 82 + (i + 1)) (82 + (i + 1)) (3166 + 13 * (i + 1)) (k := k + 83 + i) jc_5 wd_103 wd_174 wd_7 dX8_init_186 (by omega) ((congrArg jsh (show k + 83 + (i : Int) = k + (83 + (i : Int)) by omega)).trans ((hb (83 + (i : Int)) (by omega) (by omega)).trans (sh_Pledge (by omega) (by omega)))) (fun j => hM _ _ (by omega)) (fun j => (jrA_k (by omega)).trans (hN _ _ (by omega))) (by omega) (by omega) (by show _ + 13 = _; omega) (by show _ ≤ 292; omega) (by show _ ≤ 4546; omega) rfl ?_
        refine e_dup 190 dX8_init_189 rfl rfl ?_
        refine f_callI 193 (n + 82 + (i + 1)) (82 + (i + 1)) (3166 + 13 * (i + 1)) mt_yX5_init rfl mi_yX5_init (by decide +kernel) (Nat.le_of_ble_eq_true rfl) dX8_init_190 (Nat.le_of_ble_eq_true rfl) ⟨by decide, by decide, by show _ ≤ 292; omega, by show _ ≤ 4546; omega⟩ k_Pledge rfl rfl rfl rfl ?_
        refine e_astq (z := 60) (t := 6) (ci := 5) 194 dX8_init_193 (by decide) ⟨by omega, by omega, ((hb 17 (by decide) (by decide)).trans (by decide +kernel)), by decide, by decide⟩ jc_5 rfl ⟨by omega, by omega, ((congrArg jsh (show k + 83 + (i : Int) = k + (83 + (i : Int)) by omega)).trans ((hb (83 + (i : Int)) (by omega) (by omega)).trans (sh_Pledge (by omega) (by omega))))⟩ (by omega) (by omega) rfl ?_
        rw [jrA_s (by omega) rfl rfl]
        refine e_iinc (lsn := [(1, jI (((i + 1 : Nat) : Int))), (0, jR k)]) 197 dX8_init_194 rfl (by decide) rfl rfl ?_
        refine e_goto 175 dX8_init_197 (by decide) ?_
        exact lp_Pledge hk hn hs0 hb hN hM hf hx m (i + 1) (by omega)
theorem sh_Ticket {i : Int} (h0 : 0 ≤ i) (h1 : i < 150) : jshS (143 + i) = (10, 4) := by
  unfold jshS
  rw [if_neg (by omega), if_neg (by omega), if_neg (by omega), if_neg (by omega)]
theorem lp_Ticket {X : jX} {QF : jQF} {n : Nat} {k : Int} {N : jN} {M : jM} (hk : 0 ≤ k) (hn : (n : Int) = k + 1) (hs0 : jsh k = (8, 20)) (hb : ∀ i : Int, 0 ≤ i → i < 293 → jsh (k + i) = jshS i) (hN : ∀ k1 j : Int, k + 143 ≤ k1 → N k1 j = none) (hM : ∀ k1 j : Int, k + 143 ≤ k1 → M k1 j = 0) (hf : N k 11 = some (k + 18))
    (hx : gE X yX8_init cX8_init 2 none (jrm 3 292 4546) QF (142 + 150) (3946 + 4 * 150) (n + 142 + 150) (jrA N (k + 18) (k + 143) 150) M 228 [(1, jI 150), (0, jR k)] []) : ∀ (m i : Nat), i + m = 150 → gE X yX8_init cX8_init 2 none (jrm 3 292 4546) QF (142 + i) (3946 + 4 * i) (n + 142 + i) (jrA N (k + 18) (k + 143) i) M 202 [(1, jI (i : Int)), (0, jR k)] []
  | m, i, he => by
    refine e_iload_n (i := 1) 203 dX8_init_202 rfl rfl rfl ?_
    refine e_sipush 206 dX8_init_203 (by decide) rfl ?_
    refine e_icmp_ge 209 228 dX8_init_206 (by omega) (by decide) (by decide) rfl (fun h => ?_) (fun h => ?_)
    · have e : i = 150 := by omega
      subst e
      exact hx
    · match m, he with
      | 0, he => exact absurd h (by omega)
      | m + 1, he =>
        refine e_aload_n (i := 0) 210 dX8_init_209 rfl rfl rfl ?_
        refine e_getr (j := 11) (k2 := (k + 18)) 213 fl_8_48 dX8_init_210 ⟨by omega, by omega, hs0⟩ rfl rfl ((jrA_k (by omega)).trans hf) rfl ?_
        refine e_iload_n (i := 1) 214 dX8_init_213 rfl rfl rfl ?_
        refine f_new 217 (n + 142 + (i + 1)) (142 + (i + 1)) (3946 + 4 * (i + 1)) (k := k + 143 + i) jc_10 wd_105 wd_248 wd_8 dX8_init_214 (by omega) ((congrArg jsh (show k + 143 + (i : Int) = k + (143 + (i : Int)) by omega)).trans ((hb (143 + (i : Int)) (by omega) (by omega)).trans (sh_Ticket (by omega) (by omega)))) (fun j => hM _ _ (by omega)) (fun j => (jrA_k (by omega)).trans (hN _ _ (by omega))) (by omega) (by omega) (by show _ + 4 = _; omega) (by show _ ≤ 292; omega) (by show _ ≤ 4546; omega) rfl ?_
        refine e_dup 218 dX8_init_217 rfl rfl ?_
        refine f_callI 221 (n + 142 + (i + 1)) (142 + (i + 1)) (3946 + 4 * (i + 1)) mt_yX10_init rfl mi_yX10_init (by decide +kernel) (Nat.le_of_ble_eq_true rfl) dX8_init_218 (Nat.le_of_ble_eq_true rfl) ⟨by decide, by decide, by show _ ≤ 292; omega, by show _ ≤ 4546; omega⟩ k_Ticket rfl rfl rfl rfl ?_
        refine e_astq (z := 150) (t := 7) (ci := 10) 222 dX8_init_221 (by decide) ⟨by omega, by omega, ((hb 18 (by decide) (by decide)).trans (by decide +kernel)), by decide, by decide⟩ jc_10 rfl ⟨by omega, by omega, ((congrArg jsh (show k + 143 + (i : Int) = k + (143 + (i : Int)) by omega)).trans ((hb (143 + (i : Int)) (by omega) (by omega)).trans (sh_Ticket (by omega) (by omega))))⟩ (by omega) (by omega) rfl ?_
        rw [jrA_s (by omega) rfl rfl]
        refine e_iinc (lsn := [(1, jI (((i + 1 : Nat) : Int))), (0, jR k)]) 225 dX8_init_222 rfl (by decide) rfl rfl ?_
        refine e_goto 202 dX8_init_225 (by decide) ?_
        exact lp_Ticket hk hn hs0 hb hN hM hf hx m (i + 1) (by omega)
def shopN0 (k : Int) (N : jN) : jN := (jsetN (jrA (jsetN (jrA (jsetN (jrA (jsetN (jrA (jsetN (jsetN (jsetN (jsetN (jsetN (looksN (k + 11) (jsetN (lawN (k + 6) (jsetN (lawN (k + 1) N) k 0 (some (k + 1)))) k 1 (some (k + 6)))) k 3 (some (k + 11))) k 5 (some (k + 15))) k 7 (some (k + 16))) k 9 (some (k + 17))) k 11 (some (k + 18))) (k + 19) (k + 20) 10) k 13 (some (k + 19))) (k + 30) (k + 31) 6) k 15 (some (k + 30))) (k + 37) (k + 38) 4) k 16 (some (k + 37))) (k + 42) (k + 43) 12) k 18 (some (k + 42)))
def shopN (k : Int) (N : jN) : jN := (jrA (jrA (jrA (jrA (shopN0 k N) (k + 15) (k + 55) 12) (k + 16) (k + 67) 16) (k + 17) (k + 83) 60) (k + 18) (k + 143) 150)
def shopM (k : Int) (M : jM) : jM := lawM (k + 6) (lawM (k + 1) M)
theorem shopN_k {k k' j : Int} {N : jN} (h : k' < k ∨ k + 293 ≤ k') : shopN k N k' j = N k' j := by
  unfold shopN shopN0
  simp (disch := omega) only [jsetN_k, jrA_k, lawN_k, looksN_k]
theorem shopM_k {k k' j : Int} {M : jM} (h : k' < k ∨ k + 293 ≤ k') : shopM k M k' j = M k' j := by
  unfold shopM
  simp (disch := omega) only [lawM_k]
theorem k_Shop {X : jX} {n : Nat} {k : Int} {N : jN} {M : jM} (hk : 0 ≤ k) (hn : (n : Int) = k + 1) (hs0 : jsh k = (8, 20)) (hb : ∀ i : Int, 0 ≤ i → i < 293 → jsh (k + i) = jshS i) (hN : ∀ k1 j : Int, k < k1 → N k1 j = none) (hM : ∀ k1 j : Int, k < k1 → M k1 j = 0) : jMet X yX8_init cX8_init 2 none 3 292 4546 [jR k] n N M (jKx (n + 292) (shopN k N) (shopM k M)) := by
  refine jMet_of mt_yX8_init (Nat.le_of_ble_eq_true rfl) ?_
  refine e_aload_n (i := 0) 1 dX8_init_0 rfl rfl rfl ?_
  refine e_objI 4 wd_33 wd_26 wd_27 dX8_init_1 ⟨by decide, by decide⟩ (Nat.le_of_ble_eq_true rfl) rfl ?_
  refine e_aload_n (i := 0) 5 dX8_init_4 rfl rfl rfl ?_
  refine f_new 8 (n + 1) 1 6 (k := (k + 1)) jc_1 wd_34 wd_35 wd_3 dX8_init_5 (by omega) ((hb 1 (by decide) (by decide)).trans (by decide +kernel)) (fun j => by simp (disch := omega) only [lawM_k, hM]) (fun j => by simp (disch := omega) only [jsetN_k, jrA_k, lawN_k, looksN_k, hN]) (by omega) rfl rfl (by decide) (by decide) rfl ?_
  refine e_dup 9 dX8_init_8 rfl rfl ?_
  refine f_callIL 12 (n + 5) 5 36 (N1 := _) (M1 := _) mt_yX1_init rfl mi_yX1_init wd_36 (Nat.le_of_ble_eq_true rfl) dX8_init_9 (Nat.le_of_ble_eq_true rfl) ⟨by decide, by decide, by decide, by decide⟩ (k_Law (k := (k + 1)) (by omega) (by omega) ((hb 1 (by decide) (by decide)).trans (by decide +kernel)) ((congrArg jsh (show k + 1 + 1 = k + 2 by omega)).trans ((hb 2 (by decide) (by decide)).trans (by decide +kernel))) ((congrArg jsh (show k + 1 + 2 = k + 3 by omega)).trans ((hb 3 (by decide) (by decide)).trans (by decide +kernel))) ((congrArg jsh (show k + 1 + 3 = k + 4 by omega)).trans ((hb 4 (by decide) (by decide)).trans (by decide +kernel))) ((congrArg jsh (show k + 1 + 4 = k + 5 by omega)).trans ((hb 5 (by decide) (by decide)).trans (by decide +kernel))) (fun k1 j h => by simp (disch := omega) only [lawM_k, hM]) (by simp (disch := omega) only [lawM_k, hM]) (by simp (disch := omega) only [lawM_k, hM])) (by omega) rfl rfl rfl ?_
  refine e_putr (j := 0) 15 fl_8_12 dX8_init_12 ⟨by omega, by omega, hs0⟩ rfl rfl rfl rfl rfl rfl ?_
  refine e_aload_n (i := 0) 16 dX8_init_15 rfl rfl rfl ?_
  refine f_new 19 (n + 6) 6 42 (k := (k + 6)) jc_1 wd_34 wd_35 wd_3 dX8_init_16 (by omega) ((hb 6 (by decide) (by decide)).trans (by decide +kernel)) (fun j => by simp (disch := omega) only [lawM_k, hM]) (fun j => by simp (disch := omega) only [jsetN_k, jrA_k, lawN_k, looksN_k, hN]) (by omega) rfl rfl (by decide) (by decide) rfl ?_
  refine e_dup 20 dX8_init_19 rfl rfl ?_
  refine f_callIL 23 (n + 10) 10 72 (N1 := _) (M1 := _) mt_yX1_init rfl mi_yX1_init wd_36 (Nat.le_of_ble_eq_true rfl) dX8_init_20 (Nat.le_of_ble_eq_true rfl) ⟨by decide, by decide, by decide, by decide⟩ (k_Law (k := (k + 6)) (by omega) (by omega) ((hb 6 (by decide) (by decide)).trans (by decide +kernel)) ((congrArg jsh (show k + 6 + 1 = k + 7 by omega)).trans ((hb 7 (by decide) (by decide)).trans (by decide +kernel))) ((congrArg jsh (show k + 6 + 2 = k + 8 by omega)).trans ((hb 8 (by decide) (by decide)).trans (by decide +kernel))) ((congrArg jsh (show k + 6 + 3 = k + 9 by omega)).trans ((hb 9 (by decide) (by decide)).trans (by decide +kernel))) ((congrArg jsh (show k + 6 + 4 = k + 10 by omega)).trans ((hb 10 (by decide) (by decide)).trans (by decide +kernel))) (fun k1 j h => by simp (disch := omega) only [lawM_k, hM]) (by simp (disch := omega) only [lawM_k, hM]) (by simp (disch := omega) only [lawM_k, hM])) (by omega) rfl rfl rfl ?_
  refine e_putr (j := 1) 26 fl_8_18 dX8_init_23 ⟨by omega, by omega, hs0⟩ rfl rfl rfl rfl rfl rfl ?_
  refine e_aload_n (i := 0) 27 dX8_init_26 rfl rfl rfl ?_
  refine f_new 30 (n + 11) 11 77 (k := (k + 11)) jc_2 wd_75 wd_76 wd_4 dX8_init_27 (by omega) ((hb 11 (by decide) (by decide)).trans (by decide +kernel)) (fun j => by simp (disch := omega) only [lawM_k, hM]) (fun j => by simp (disch := omega) only [jsetN_k, jrA_k, lawN_k, looksN_k, hN]) (by omega) rfl rfl (by decide) (by decide) rfl ?_
  refine e_dup 31 dX8_init_30 rfl rfl ?_
  refine f_callI 34 (n + 14) 14 886 (N1 := _) (M1 := _) mt_yX2_init rfl mi_yX2_init (by decide +kernel) (Nat.le_of_ble_eq_true rfl) dX8_init_31 (Nat.le_of_ble_eq_true rfl) ⟨by decide, by decide, by decide, by decide⟩ (k_Looks (k := (k + 11)) (by omega) (by omega) ((hb 11 (by decide) (by decide)).trans (by decide +kernel)) ((congrArg jsh (show k + 11 + 1 = k + 12 by omega)).trans ((hb 12 (by decide) (by decide)).trans (by decide +kernel))) ((congrArg jsh (show k + 11 + 2 = k + 13 by omega)).trans ((hb 13 (by decide) (by decide)).trans (by decide +kernel))) ((congrArg jsh (show k + 11 + 3 = k + 14 by omega)).trans ((hb 14 (by decide) (by decide)).trans (by decide +kernel))) (fun k1 j h => by simp (disch := omega) only [lawM_k, hM])) (by omega) rfl rfl rfl ?_
  refine e_putr (j := 3) 37 fl_8_24 dX8_init_34 ⟨by omega, by omega, hs0⟩ rfl rfl rfl rfl rfl rfl ?_
  refine e_aload_n (i := 0) 38 dX8_init_37 rfl rfl rfl ?_
  refine e_bipush 40 dX8_init_38 (by decide) rfl ?_
  refine f_newq 43 (n + 15) 15 898 (k := (k + 15)) (t := 4) (zn := 12) (by decide) (by decide) rfl wd_99 (by decide) dX8_init_40 (by decide) rfl (by omega) ((hb 15 (by decide) (by decide)).trans (by decide +kernel)) (fun j => by simp (disch := omega) only [jsetN_k, jrA_k, lawN_k, looksN_k, hN]) (by omega) rfl rfl (by decide) (by decide) rfl ?_
  refine e_putr (j := 5) 46 fl_8_30 dX8_init_43 ⟨by omega, by omega, hs0⟩ rfl rfl rfl rfl rfl rfl ?_
  refine e_aload_n (i := 0) 47 dX8_init_46 rfl rfl rfl ?_
  refine e_bipush 49 dX8_init_47 (by decide) rfl ?_
  refine f_newq 52 (n + 16) 16 914 (k := (k + 16)) (t := 5) (zn := 16) (by decide) (by decide) rfl wd_101 (by decide) dX8_init_49 (by decide) rfl (by omega) ((hb 16 (by decide) (by decide)).trans (by decide +kernel)) (fun j => by simp (disch := omega) only [jsetN_k, jrA_k, lawN_k, looksN_k, hN]) (by omega) rfl rfl (by decide) (by decide) rfl ?_
  refine e_putr (j := 7) 55 fl_8_36 dX8_init_52 ⟨by omega, by omega, hs0⟩ rfl rfl rfl rfl rfl rfl ?_
  refine e_aload_n (i := 0) 56 dX8_init_55 rfl rfl rfl ?_
  refine e_bipush 58 dX8_init_56 (by decide) rfl ?_
  refine f_newq 61 (n + 17) 17 974 (k := (k + 17)) (t := 6) (zn := 60) (by decide) (by decide) rfl wd_103 (by decide) dX8_init_58 (by decide) rfl (by omega) ((hb 17 (by decide) (by decide)).trans (by decide +kernel)) (fun j => by simp (disch := omega) only [jsetN_k, jrA_k, lawN_k, looksN_k, hN]) (by omega) rfl rfl (by decide) (by decide) rfl ?_
  refine e_putr (j := 9) 64 fl_8_42 dX8_init_61 ⟨by omega, by omega, hs0⟩ rfl rfl rfl rfl rfl rfl ?_
  refine e_aload_n (i := 0) 65 dX8_init_64 rfl rfl rfl ?_
  refine e_sipush 68 dX8_init_65 (by decide) rfl ?_
  refine f_newq 71 (n + 18) 18 1124 (k := (k + 18)) (t := 7) (zn := 150) (by decide) (by decide) rfl wd_105 (by decide) dX8_init_68 (by decide) rfl (by omega) ((hb 18 (by decide) (by decide)).trans (by decide +kernel)) (fun j => by simp (disch := omega) only [jsetN_k, jrA_k, lawN_k, looksN_k, hN]) (by omega) rfl rfl (by decide) (by decide) rfl ?_
  refine e_putr (j := 11) 74 fl_8_48 dX8_init_71 ⟨by omega, by omega, hs0⟩ rfl rfl rfl rfl rfl rfl ?_
  refine e_aload_n (i := 0) 75 dX8_init_74 rfl rfl rfl ?_
  refine e_bipush 77 dX8_init_75 (by decide) rfl ?_
  refine e_iconst 78 dX8_init_77 rfl ?_
  refine f_mna 82 (n + 29) 29 1154 (k := (k + 19)) (k1 := (k + 20)) (zn := 10) (wn := 2) wd_107 wd_74 dX8_init_78 (by decide) (by decide) rfl rfl (by omega) (by omega) ((hb 19 (by decide) (by decide)).trans (by decide +kernel)) (fun i h0 h1 => (congrArg jsh (show k + 20 + i = k + (20 + i) by omega)).trans ((hb (20 + i) (by omega) (by omega)).trans (rowsS_20 h0 h1))) (fun i j h0 h1 => by simp (disch := omega) only [lawM_k, hM]) (fun j => by simp (disch := omega) only [jsetN_k, jrA_k, lawN_k, looksN_k, hN]) (by omega) rfl rfl (by decide) (by decide) rfl ?_
  refine e_putr (j := 13) 85 fl_8_54 dX8_init_82 ⟨by omega, by omega, hs0⟩ rfl rfl rfl rfl rfl rfl ?_
  refine e_aload_n (i := 0) 86 dX8_init_85 rfl rfl rfl ?_
  refine e_bipush 88 dX8_init_86 (by decide) rfl ?_
  refine e_sipush 91 dX8_init_88 (by decide) rfl ?_
  refine f_mna 95 (n + 36) 36 2966 (k := (k + 30)) (k1 := (k + 31)) (zn := 6) (wn := 301) wd_107 wd_74 dX8_init_91 (by decide) (by decide) rfl rfl (by omega) (by omega) ((hb 30 (by decide) (by decide)).trans (by decide +kernel)) (fun i h0 h1 => (congrArg jsh (show k + 31 + i = k + (31 + i) by omega)).trans ((hb (31 + i) (by omega) (by omega)).trans (rowsS_31 h0 h1))) (fun i j h0 h1 => by simp (disch := omega) only [lawM_k, hM]) (fun j => by simp (disch := omega) only [jsetN_k, jrA_k, lawN_k, looksN_k, hN]) (by omega) rfl rfl (by decide) (by decide) rfl ?_
  refine e_putr (j := 15) 98 fl_8_57 dX8_init_95 ⟨by omega, by omega, hs0⟩ rfl rfl rfl rfl rfl rfl ?_
  refine e_aload_n (i := 0) 99 dX8_init_98 rfl rfl rfl ?_
  refine e_iconst 100 dX8_init_99 rfl ?_
  refine e_iconst 101 dX8_init_100 rfl ?_
  refine f_mna 105 (n + 41) 41 2990 (k := (k + 37)) (k1 := (k + 38)) (zn := 4) (wn := 5) wd_107 wd_74 dX8_init_101 (by decide) (by decide) rfl rfl (by omega) (by omega) ((hb 37 (by decide) (by decide)).trans (by decide +kernel)) (fun i h0 h1 => (congrArg jsh (show k + 38 + i = k + (38 + i) by omega)).trans ((hb (38 + i) (by omega) (by omega)).trans (rowsS_38 h0 h1))) (fun i j h0 h1 => by simp (disch := omega) only [lawM_k, hM]) (fun j => by simp (disch := omega) only [jsetN_k, jrA_k, lawN_k, looksN_k, hN]) (by omega) rfl rfl (by decide) (by decide) rfl ?_
  refine e_putr (j := 16) 108 fl_8_60 dX8_init_105 ⟨by omega, by omega, hs0⟩ rfl rfl rfl rfl rfl rfl ?_
  refine e_aload_n (i := 0) 109 dX8_init_108 rfl rfl rfl ?_
  refine e_bipush 111 dX8_init_109 (by decide) rfl ?_
  refine e_iconst 112 dX8_init_111 rfl ?_
  refine f_mna 116 (n + 54) 54 3026 (k := (k + 42)) (k1 := (k + 43)) (zn := 12) (wn := 2) wd_107 wd_74 dX8_init_112 (by decide) (by decide) rfl rfl (by omega) (by omega) ((hb 42 (by decide) (by decide)).trans (by decide +kernel)) (fun i h0 h1 => (congrArg jsh (show k + 43 + i = k + (43 + i) by omega)).trans ((hb (43 + i) (by omega) (by omega)).trans (rowsS_43 h0 h1))) (fun i j h0 h1 => by simp (disch := omega) only [lawM_k, hM]) (fun j => by simp (disch := omega) only [jsetN_k, jrA_k, lawN_k, looksN_k, hN]) (by omega) rfl rfl (by decide) (by decide) rfl ?_
  refine e_putr (j := 18) 119 fl_8_63 dX8_init_116 ⟨by omega, by omega, hs0⟩ rfl rfl rfl rfl rfl rfl ?_
  show gE X yX8_init cX8_init 2 none (jrm 3 292 4546) _ 54 3026 (n + 54) (shopN0 k N) (lawM (k + 6) (lawM (k + 1) M)) 119 _ _
  have hM1 : ∀ k1 j : Int, k + 55 ≤ k1 → lawM (k + 6) (lawM (k + 1) M) k1 j = 0 := fun k1 j h => by simp (disch := omega) only [lawM_k, hM]
  have hN1 : ∀ k1 j : Int, k + 55 ≤ k1 → shopN0 k N k1 j = none := fun k1 j h => by
    unfold shopN0
    simp (disch := omega) only [jsetN_k, jrA_k, lawN_k, looksN_k, hN]
  have hf5 : shopN0 k N k 5 = some (k + 15) := by
    unfold shopN0
    simp (disch := omega) only [jsetN_same, jsetN_j, jsetN_k, jrA_k, lawN_k, looksN_k]
  have hf7 : shopN0 k N k 7 = some (k + 16) := by
    unfold shopN0
    simp (disch := omega) only [jsetN_same, jsetN_j, jsetN_k, jrA_k, lawN_k, looksN_k]
  have hf9 : shopN0 k N k 9 = some (k + 17) := by
    unfold shopN0
    simp (disch := omega) only [jsetN_same, jsetN_j, jsetN_k, jrA_k, lawN_k, looksN_k]
  have hf11 : shopN0 k N k 11 = some (k + 18) := by
    unfold shopN0
    simp (disch := omega) only [jsetN_same, jsetN_j, jsetN_k, jrA_k, lawN_k, looksN_k]
  refine e_iconst 120 dX8_init_119 rfl ?_
  refine e_istore_n (i := 1) (lsn := [(1, jI 0), (0, jR k)]) 121 dX8_init_120 rfl (by decide) rfl rfl ?_
  rw [← jrA_0 (N := (shopN0 k N)) (a := k + 15) (b := k + 55)]
  refine lp_Kind (N := (shopN0 k N)) hk hn hs0 hb (fun k1 j h => by simp (disch := omega) only [jrA_k, hN1]) (fun k1 j h => hM1 k1 j (by omega)) (by simp (disch := omega) only [jrA_k, hf5]) ?_ 12 0 (by decide)
  refine e_iconst 147 dX8_init_146 rfl ?_
  refine e_istore_n (i := 1) (lsn := [(1, jI 0), (0, jR k)]) 148 dX8_init_147 rfl (by decide) rfl rfl ?_
  rw [← jrA_0 (N := (jrA (shopN0 k N) (k + 15) (k + 55) 12)) (a := k + 16) (b := k + 67)]
  refine lp_Person (N := (jrA (shopN0 k N) (k + 15) (k + 55) 12)) hk hn hs0 hb (fun k1 j h => by simp (disch := omega) only [jrA_k, hN1]) (fun k1 j h => hM1 k1 j (by omega)) (by simp (disch := omega) only [jrA_k, hf7]) ?_ 16 0 (by decide)
  refine e_iconst 174 dX8_init_173 rfl ?_
  refine e_istore_n (i := 1) (lsn := [(1, jI 0), (0, jR k)]) 175 dX8_init_174 rfl (by decide) rfl rfl ?_
  rw [← jrA_0 (N := (jrA (jrA (shopN0 k N) (k + 15) (k + 55) 12) (k + 16) (k + 67) 16)) (a := k + 17) (b := k + 83)]
  refine lp_Pledge (N := (jrA (jrA (shopN0 k N) (k + 15) (k + 55) 12) (k + 16) (k + 67) 16)) hk hn hs0 hb (fun k1 j h => by simp (disch := omega) only [jrA_k, hN1]) (fun k1 j h => hM1 k1 j (by omega)) (by simp (disch := omega) only [jrA_k, hf9]) ?_ 60 0 (by decide)
  refine e_iconst 201 dX8_init_200 rfl ?_
  refine e_istore_n (i := 1) (lsn := [(1, jI 0), (0, jR k)]) 202 dX8_init_201 rfl (by decide) rfl rfl ?_
  rw [← jrA_0 (N := (jrA (jrA (jrA (shopN0 k N) (k + 15) (k + 55) 12) (k + 16) (k + 67) 16) (k + 17) (k + 83) 60)) (a := k + 18) (b := k + 143)]
  refine lp_Ticket (N := (jrA (jrA (jrA (shopN0 k N) (k + 15) (k + 55) 12) (k + 16) (k + 67) 16) (k + 17) (k + 83) 60)) hk hn hs0 hb (fun k1 j h => by simp (disch := omega) only [jrA_k, hN1]) (fun k1 j h => hM1 k1 j (by omega)) (by simp (disch := omega) only [jrA_k, hf11]) ?_ 150 0 (by decide)
  exact e_vretG dX8_init_228 ⟨rfl, rfl, rfl⟩
