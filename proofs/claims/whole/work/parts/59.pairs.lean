/-! COPIES: a whole shop; PAIRS: other, image, restore -/
theorem mem_gen2 {P : jM → Prop} {M1 : jM} (h : ∀ x, x = M1 → P x) : P M1 := h _ rfl
theorem mvLw_out {M : jM} {c d k j : Int} (h : k < c ∨ c + 5 ≤ k) : mv M (RLw c) d k j = M k j := mv_out (fun q => by unfold RLw at q; omega)
theorem mvLk_out {M : jM} {n c d k j : Int} (h : k < c ∨ c + 4 ≤ k) : mv M (RLk n c) d k j = M k j := mv_out (fun q => by unfold RLk at q; omega)
theorem mvTh_out {M : jM} {b n1 n2 n3 n4 d k j : Int} (h : k < b ∨ b + 293 ≤ k) (h1 : n1 ≤ 12) (h2 : n2 ≤ 16) (h3 : n3 ≤ 60) (h4 : n4 ≤ 150) : mv M (RTh b n1 n2 n3 n4) d k j = M k j := mv_out (fun q => by unfold RTh at q; omega)
theorem c_copyRL {b d : Int} {M : jM} {Q : Int → jM → Prop} (hb : jSB b) (hd : jSB d) (hne : b ≠ d) (h : Q 0 (mv M (fun k j => (k = b ∧ (j = 14 ∨ j = 19)) ∨ (b + 20 ≤ k ∧ k < b + 30 ∧ 0 ≤ j ∧ j < 2) ∨ (b + 43 ≤ k ∧ k < b + 55 ∧ 0 ≤ j ∧ j < 2)) (b - d))) : jCt yX8_copyRacksAndLists cX8_copyRacksAndLists 2 none 2 [jR b, jR d] M Q := by
  refine jCt_of mt_yX8_copyRacksAndLists (Nat.le_of_ble_eq_true rfl) (fun X => ?_)
  have hf := sb_far hb hd hne
  refine e_aload_n (i := 0) 1 dX8_copyRacksAndLists_0 rfl rfl rfl ?_
  refine e_aload_n (i := 1) 2 dX8_copyRacksAndLists_1 rfl rfl rfl ?_
  refine e_geti (j := 14) 5 fl_8_123 dX8_copyRacksAndLists_2 (sbo_at hd) (by decide) rfl rfl (fun r2 => ?_)
  refine e_puti (j := 14) 8 fl_8_123 dX8_copyRacksAndLists_5 (sbo_at hb) rfl rfl rfl (by omega) rfl ?_
  refine e_aload_n (i := 1) 9 dX8_copyRacksAndLists_8 rfl rfl rfl ?_
  refine e_getr (j := 13) 12 fl_8_54 dX8_copyRacksAndLists_9 (sbo_at hd) rfl rfl (sb_t13 hd) rfl ?_
  refine e_aload_n (i := 0) 13 dX8_copyRacksAndLists_12 rfl rfl rfl ?_
  refine e_getr (j := 13) 16 fl_8_54 dX8_copyRacksAndLists_13 (sbo_at hb) rfl rfl (sb_t13 hb) rfl ?_
  refine e_callS 19 mt_yX8_copyRows ms_yX8_copyRows wd_1257 (by decide) dX8_copyRacksAndLists_16 rfl rfl (Nat.le_of_ble_eq_true rfl) (jroom (by decide)) rfl (c_copyRows (sb_rk hb) (sb_rk hd) (by (try simp (disch := omega) only [jset_k, jset_j, jset_same, true_and, and_true, mv_out, mvLw_out, mvLk_out, mvTh_out]); omega) (by (try simp (disch := omega) only [jset_k, jset_j, jset_same, true_and, and_true, mv_out, mvLw_out, mvLk_out, mvTh_out]); omega) (by (try simp (disch := omega) only [jset_k, jset_j, jset_same, true_and, and_true, mv_out, mvLw_out, mvLk_out, mvTh_out]); omega) ?_)
  dsimp only [jpush]
  (try simp (disch := omega) only [jset_k, jset_j, jset_same, true_and, and_true, mv_out, mvLw_out, mvLk_out, mvTh_out])
  refine e_aload_n (i := 0) 20 dX8_copyRacksAndLists_19 rfl rfl rfl ?_
  refine e_aload_n (i := 1) 21 dX8_copyRacksAndLists_20 rfl rfl rfl ?_
  refine e_geti (j := 19) 24 fl_8_126 dX8_copyRacksAndLists_21 (sbo_at hd) (by decide) rfl rfl (fun r21 => ?_)
  simp (disch := omega) only [jset_k, jset_j, jset_same, true_and, and_true, mv_out, mvLw_out, mvLk_out, mvTh_out] at r21 ⊢
  refine e_puti (j := 19) 27 fl_8_126 dX8_copyRacksAndLists_24 (sbo_at hb) rfl rfl rfl (by omega) rfl ?_
  refine e_aload_n (i := 1) 28 dX8_copyRacksAndLists_27 rfl rfl rfl ?_
  refine e_getr (j := 18) 31 fl_8_63 dX8_copyRacksAndLists_28 (sbo_at hd) rfl rfl (sb_t18 hd) rfl ?_
  refine e_aload_n (i := 0) 32 dX8_copyRacksAndLists_31 rfl rfl rfl ?_
  refine e_getr (j := 18) 35 fl_8_63 dX8_copyRacksAndLists_32 (sbo_at hb) rfl rfl (sb_t18 hb) rfl ?_
  refine e_callS 38 mt_yX8_copyRows ms_yX8_copyRows wd_1257 (by decide) dX8_copyRacksAndLists_35 rfl rfl (Nat.le_of_ble_eq_true rfl) (jroom (by decide)) rfl (c_copyRows (sb_ls hb) (sb_ls hd) (by (try simp (disch := omega) only [jset_k, jset_j, jset_same, true_and, and_true, mv_out, mvLw_out, mvLk_out, mvTh_out]); omega) (by (try simp (disch := omega) only [jset_k, jset_j, jset_same, true_and, and_true, mv_out, mvLw_out, mvLk_out, mvTh_out]); omega) (by (try simp (disch := omega) only [jset_k, jset_j, jset_same, true_and, and_true, mv_out, mvLw_out, mvLk_out, mvTh_out]); omega) ?_)
  dsimp only [jpush]
  (try simp (disch := omega) only [jset_k, jset_j, jset_same, true_and, and_true, mv_out, mvLw_out, mvLk_out, mvTh_out])
  refine e_vret dX8_copyRacksAndLists_38 ?_
  rw [mv_set (k0 := d) rfl]
  rw [show b + 19 - (d + 19) = b - d by omega, show b + 42 - (d + 42) = b - d by omega]
  rw [mv_mv (fun k j a q => by omega)]
  rw [mv_set (M := mv M _ _) (k0 := d) (by rw [mv_out (by omega)])]
  rw [mv_mv (fun k j a q => by omega), mv_mv (fun k j a q => by omega)]
  refine Eq.subst (motive := fun x => Q 0 x) (mv_cong (fun k j => ?_) rfl) h
  constructor <;> intro q <;> omega

theorem mvRL_out {M : jM} {b e k j : Int} (h : k < b ∨ b + 293 ≤ k) : mv M (fun k j => (k = b ∧ (j = 14 ∨ j = 19)) ∨ (b + 20 ≤ k ∧ k < b + 30 ∧ 0 ≤ j ∧ j < 2) ∨ (b + 43 ≤ k ∧ k < b + 55 ∧ 0 ≤ j ∧ j < 2)) e k j = M k j := mv_out (fun q => by omega)
/-- the cells of a shop that are copied -/
def RSh (M : jM) (b d k j : Int) : Prop := (RLw (b + 1) k j) ∨ (RLw (b + 6) k j) ∨ (k = b ∧ j = 2) ∨ (RLk (M (d + 11) 1) (b + 11) k j) ∨ (k = b ∧ j = 4) ∨ (RTh b (M d 6) (M d 8) (M d 10) (M d 12) k j) ∨ ((k = b ∧ (j = 14 ∨ j = 19)) ∨ (b + 20 ≤ k ∧ k < b + 30 ∧ 0 ≤ j ∧ j < 2) ∨ (b + 43 ≤ k ∧ k < b + 55 ∧ 0 ≤ j ∧ j < 2)) ∨ (b + 31 ≤ k ∧ k < b + 37 ∧ 0 ≤ j ∧ j < 301) ∨ (b + 38 ≤ k ∧ k < b + 42 ∧ 0 ≤ j ∧ j < 5) ∨ (k = b ∧ j = 17)
theorem c_copyShop {b d : Int} {M : jM} {Q : Int → jM → Prop} (hb : jSB b) (hd : jSB d) (hne : b ≠ d) (hk : 0 ≤ M d 6 ∧ M d 6 ≤ 12) (hp : 0 ≤ M d 8 ∧ M d 8 ≤ 16) (hl : 0 ≤ M d 10 ∧ M d 10 ≤ 60) (ht : 0 ≤ M d 12 ∧ M d 12 ≤ 150) (hkb : ∀ i, 0 ≤ i → i < M d 6 → M (d + (55 + i)) 4 = 0 ∨ M (d + (55 + i)) 4 = 1) (htb : ∀ i, 0 ≤ i → i < M d 12 → M (d + (143 + i)) 3 = 0 ∨ M (d + (143 + i)) 3 = 1) (hs : 0 ≤ M (d + 11) 1 ∧ M (d + 11) 1 ≤ 400) (hz : M d 2 = 0 ∨ M d 2 = 1) (h : ∀ M' : jM, (∀ k j, (RSh M b d k j) → M' k j = M (k - (b - d)) j) → (∀ k j, ¬ (RSh M b d k j) → M' k j = M k j) → Q 0 M') : jCt yX8_copyFrom cX8_copyFrom 2 none 3 [jR b, jR d] M Q := by
  refine jCt_of mt_yX8_copyFrom (Nat.le_of_ble_eq_true rfl) (fun X => ?_)
  have hf := sb_far hb hd hne
  refine e_aload_n (i := 0) 1 dX8_copyFrom_0 rfl rfl rfl ?_
  refine e_getr (j := 0) 4 fl_8_12 dX8_copyFrom_1 (sbo_at hb) rfl rfl (sb_t0 hb) rfl ?_
  refine e_aload_n (i := 1) 5 dX8_copyFrom_4 rfl rfl rfl ?_
  refine e_getr (j := 0) 8 fl_8_12 dX8_copyFrom_5 (sbo_at hd) rfl rfl (sb_t0 hd) rfl ?_
  refine e_callV 11 mt_yX1_copyFrom mv_yX1_copyFrom wd_1231 (by decide) dX8_copyFrom_8 (sb_lw hb (Or.inl rfl)).at jc_1 rfl rfl rfl (Nat.le_of_ble_eq_true rfl) (jroom (by decide)) rfl (c_LawCp (sb_lw hb (Or.inl rfl)) (sb_lw hd (Or.inl rfl)) (by omega) ?_)
  dsimp only [jpush]
  refine mem_gen2 (P := fun M1 => jE X yX8_copyFrom cX8_copyFrom 2 none 3 Q M1 11 [(0, jR b), (1, jR d)] []) (fun N1 hN1 => ?_)
  have a1 : ∀ k j, (RLw (b + 1) k j) → N1 k j = M (k - (b - d)) j := fun k j q => by
    rw [hN1, mv_in (by first | exact q | omega)]
    try rw [show ∀ x : Int, b + x - (d + x) = b - d from fun x => by omega]
    all_goals first | rfl | exact rfl
  have n1 : ∀ k j, ¬ (RLw (b + 1) k j) → N1 k j = M k j := fun k j q => by
    rw [hN1]
    exact mv_out (fun z => q (by first | exact z | omega))
  have s1 : ∀ k j, (k < b ∨ b + 293 ≤ k) → N1 k j = M k j := fun k j z => by
    rw [n1 k j (fun q => by first | omega | (unfold RLw at q; omega) | (unfold RLk at q; omega) | (unfold RTh at q; omega))]
  clear hN1
  refine e_aload_n (i := 0) 12 dX8_copyFrom_11 rfl rfl rfl ?_
  refine e_getr (j := 1) 15 fl_8_18 dX8_copyFrom_12 (sbo_at hb) rfl rfl (sb_t1 hb) rfl ?_
  refine e_aload_n (i := 1) 16 dX8_copyFrom_15 rfl rfl rfl ?_
  refine e_getr (j := 1) 19 fl_8_18 dX8_copyFrom_16 (sbo_at hd) rfl rfl (sb_t1 hd) rfl ?_
  refine e_callV 22 mt_yX1_copyFrom mv_yX1_copyFrom wd_1231 (by decide) dX8_copyFrom_19 (sb_lw hb (Or.inr rfl)).at jc_1 rfl rfl rfl (Nat.le_of_ble_eq_true rfl) (jroom (by decide)) rfl (c_LawCp (sb_lw hb (Or.inr rfl)) (sb_lw hd (Or.inr rfl)) (by (try simp (disch := omega) only [jset_k, jset_j, jset_same, true_and, and_true, s1]); omega) ?_)
  dsimp only [jpush]
  (try simp (disch := omega) only [jset_k, jset_j, jset_same, true_and, and_true, s1])
  refine mem_gen2 (P := fun M1 => jE X yX8_copyFrom cX8_copyFrom 2 none 3 Q M1 22 [(0, jR b), (1, jR d)] []) (fun N2 hN2 => ?_)
  have a2 : ∀ k j, (RLw (b + 6) k j) → N2 k j = M (k - (b - d)) j := fun k j q => by
    rw [hN2, mv_in (by first | exact q | omega)]
    try rw [show ∀ x : Int, b + x - (d + x) = b - d from fun x => by omega]
    all_goals first | rfl | exact s1 _ _ (by first | omega | (unfold RLw at q; omega) | (unfold RLk at q; omega) | (unfold RTh at q; omega))
  have n2 : ∀ k j, ¬ (RLw (b + 6) k j) → N2 k j = N1 k j := fun k j q => by
    rw [hN2]
    exact mv_out (fun z => q (by first | exact z | omega))
  have s2 : ∀ k j, (k < b ∨ b + 293 ≤ k) → N2 k j = M k j := fun k j z => by
    rw [n2 k j (fun q => by first | omega | (unfold RLw at q; omega) | (unfold RLk at q; omega) | (unfold RTh at q; omega))]
    exact s1 k j z
  clear hN2
  refine e_aload_n (i := 0) 23 dX8_copyFrom_22 rfl rfl rfl ?_
  refine e_aload_n (i := 1) 24 dX8_copyFrom_23 rfl rfl rfl ?_
  refine e_geti (j := 2) 27 fl_8_74 dX8_copyFrom_24 (sbo_at hd) (by decide) rfl rfl (fun r24 => ?_)
  simp (disch := omega) only [jset_k, jset_j, jset_same, true_and, and_true, s2] at r24 ⊢
  refine e_putz (j := 2) 30 fl_8_74 dX8_copyFrom_27 (sbo_at hb) rfl rfl rfl (by omega) rfl ?_
  refine mem_gen2 (P := fun M1 => jE X yX8_copyFrom cX8_copyFrom 2 none 3 Q M1 30 [(0, jR b), (1, jR d)] []) (fun N3 hN3 => ?_)
  have a3 : ∀ k j, (k = b ∧ j = 2) → N3 k j = M (k - (b - d)) j := fun k j q => by
    rw [hN3, q.1, q.2, jset_same, show b - (b - d) = d by omega]
  have n3 : ∀ k j, ¬ (k = b ∧ j = 2) → N3 k j = N2 k j := fun k j q => by
    rw [hN3]
    exact if_neg q
  have s3 : ∀ k j, (k < b ∨ b + 293 ≤ k) → N3 k j = M k j := fun k j z => by
    rw [n3 k j (fun q => by first | omega | (unfold RLw at q; omega) | (unfold RLk at q; omega) | (unfold RTh at q; omega))]
    exact s2 k j z
  clear hN3
  refine e_aload_n (i := 0) 31 dX8_copyFrom_30 rfl rfl rfl ?_
  refine e_getr (j := 3) 34 fl_8_24 dX8_copyFrom_31 (sbo_at hb) rfl rfl (sb_t3 hb) rfl ?_
  refine e_aload_n (i := 1) 35 dX8_copyFrom_34 rfl rfl rfl ?_
  refine e_getr (j := 3) 38 fl_8_24 dX8_copyFrom_35 (sbo_at hd) rfl rfl (sb_t3 hd) rfl ?_
  refine e_callV 41 mt_yX2_copyFrom mv_yX2_copyFrom wd_1232 (by decide) dX8_copyFrom_38 (sb_lk hb).at jc_2 rfl rfl rfl (Nat.le_of_ble_eq_true rfl) (jroom (by decide)) rfl (c_LooksCp (sb_lk hb) (sb_lk hd) (by (try simp (disch := omega) only [jset_k, jset_j, jset_same, true_and, and_true, s3]); omega) (by (try simp (disch := omega) only [jset_k, jset_j, jset_same, true_and, and_true, s3]); omega) ?_)
  dsimp only [jpush]
  (try simp (disch := omega) only [jset_k, jset_j, jset_same, true_and, and_true, s3])
  refine mem_gen2 (P := fun M1 => jE X yX8_copyFrom cX8_copyFrom 2 none 3 Q M1 41 [(0, jR b), (1, jR d)] []) (fun N4 hN4 => ?_)
  have a4 : ∀ k j, (RLk (M (d + 11) 1) (b + 11) k j) → N4 k j = M (k - (b - d)) j := fun k j q => by
    rw [hN4, mv_in (by first | exact q | omega)]
    try rw [show ∀ x : Int, b + x - (d + x) = b - d from fun x => by omega]
    all_goals first | rfl | exact s3 _ _ (by first | omega | (unfold RLw at q; omega) | (unfold RLk at q; omega) | (unfold RTh at q; omega))
  have n4 : ∀ k j, ¬ (RLk (M (d + 11) 1) (b + 11) k j) → N4 k j = N3 k j := fun k j q => by
    rw [hN4]
    exact mv_out (fun z => q (by first | exact z | omega))
  have s4 : ∀ k j, (k < b ∨ b + 293 ≤ k) → N4 k j = M k j := fun k j z => by
    rw [n4 k j (fun q => by first | omega | (unfold RLw at q; omega) | (unfold RLk at q; omega) | (unfold RTh at q; omega))]
    exact s3 k j z
  clear hN4
  refine e_aload_n (i := 0) 42 dX8_copyFrom_41 rfl rfl rfl ?_
  refine e_aload_n (i := 1) 43 dX8_copyFrom_42 rfl rfl rfl ?_
  refine e_geti (j := 4) 46 fl_8_81 dX8_copyFrom_43 (sbo_at hd) (by decide) rfl rfl (fun r43 => ?_)
  simp (disch := omega) only [jset_k, jset_j, jset_same, true_and, and_true, s4] at r43 ⊢
  refine e_puti (j := 4) 49 fl_8_81 dX8_copyFrom_46 (sbo_at hb) rfl rfl rfl (by omega) rfl ?_
  refine mem_gen2 (P := fun M1 => jE X yX8_copyFrom cX8_copyFrom 2 none 3 Q M1 49 [(0, jR b), (1, jR d)] []) (fun N5 hN5 => ?_)
  have a5 : ∀ k j, (k = b ∧ j = 4) → N5 k j = M (k - (b - d)) j := fun k j q => by
    rw [hN5, q.1, q.2, jset_same, show b - (b - d) = d by omega]
  have n5 : ∀ k j, ¬ (k = b ∧ j = 4) → N5 k j = N4 k j := fun k j q => by
    rw [hN5]
    exact if_neg q
  have s5 : ∀ k j, (k < b ∨ b + 293 ≤ k) → N5 k j = M k j := fun k j z => by
    rw [n5 k j (fun q => by first | omega | (unfold RLw at q; omega) | (unfold RLk at q; omega) | (unfold RTh at q; omega))]
    exact s4 k j z
  clear hN5
  refine e_aload_n (i := 0) 50 dX8_copyFrom_49 rfl rfl rfl ?_
  refine e_aload_n (i := 1) 51 dX8_copyFrom_50 rfl rfl rfl ?_
  refine e_callV 54 mt_yX8_copyThings mv_yX8_copyThings wd_1233 (by decide) dX8_copyFrom_51 (sbo_at hb) jc_8 rfl rfl rfl (Nat.le_of_ble_eq_true rfl) (jroom (by decide)) rfl (c_copyThings hb hd hne (by (try simp (disch := omega) only [jset_k, jset_j, jset_same, true_and, and_true, s5]); omega) (by (try simp (disch := omega) only [jset_k, jset_j, jset_same, true_and, and_true, s5]); omega) (by (try simp (disch := omega) only [jset_k, jset_j, jset_same, true_and, and_true, s5]); omega) (by (try simp (disch := omega) only [jset_k, jset_j, jset_same, true_and, and_true, s5]); omega) (fun i a b => by simp (disch := omega) only [jset_k, jset_j, jset_same, true_and, and_true, s5] at b; simp (disch := omega) only [jset_k, jset_j, jset_same, true_and, and_true, s5]; exact hkb i a b) (fun i a b => by simp (disch := omega) only [jset_k, jset_j, jset_same, true_and, and_true, s5] at b; simp (disch := omega) only [jset_k, jset_j, jset_same, true_and, and_true, s5]; exact htb i a b) ?_)
  dsimp only [jpush]
  (try simp (disch := omega) only [jset_k, jset_j, jset_same, true_and, and_true, s5])
  refine mem_gen2 (P := fun M1 => jE X yX8_copyFrom cX8_copyFrom 2 none 3 Q M1 54 [(0, jR b), (1, jR d)] []) (fun N6 hN6 => ?_)
  have a6 : ∀ k j, (RTh b (M d 6) (M d 8) (M d 10) (M d 12) k j) → N6 k j = M (k - (b - d)) j := fun k j q => by
    rw [hN6, mv_in (by first | exact q | omega)]
    try rw [show ∀ x : Int, b + x - (d + x) = b - d from fun x => by omega]
    all_goals first | rfl | exact s5 _ _ (by first | omega | (unfold RLw at q; omega) | (unfold RLk at q; omega) | (unfold RTh at q; omega))
  have n6 : ∀ k j, ¬ (RTh b (M d 6) (M d 8) (M d 10) (M d 12) k j) → N6 k j = N5 k j := fun k j q => by
    rw [hN6]
    exact mv_out (fun z => q (by first | exact z | omega))
  have s6 : ∀ k j, (k < b ∨ b + 293 ≤ k) → N6 k j = M k j := fun k j z => by
    rw [n6 k j (fun q => by first | omega | (unfold RLw at q; omega) | (unfold RLk at q; omega) | (unfold RTh at q; omega))]
    exact s5 k j z
  clear hN6
  refine e_aload_n (i := 0) 55 dX8_copyFrom_54 rfl rfl rfl ?_
  refine e_aload_n (i := 1) 56 dX8_copyFrom_55 rfl rfl rfl ?_
  refine e_callV 59 mt_yX8_copyRacksAndLists mv_yX8_copyRacksAndLists wd_1253 (by decide) dX8_copyFrom_56 (sbo_at hb) jc_8 rfl rfl rfl (Nat.le_of_ble_eq_true rfl) (jroom (by decide)) rfl (c_copyRL hb hd hne ?_)
  dsimp only [jpush]
  (try simp (disch := omega) only [jset_k, jset_j, jset_same, true_and, and_true, s6])
  refine mem_gen2 (P := fun M1 => jE X yX8_copyFrom cX8_copyFrom 2 none 3 Q M1 59 [(0, jR b), (1, jR d)] []) (fun N7 hN7 => ?_)
  have a7 : ∀ k j, ((k = b ∧ (j = 14 ∨ j = 19)) ∨ (b + 20 ≤ k ∧ k < b + 30 ∧ 0 ≤ j ∧ j < 2) ∨ (b + 43 ≤ k ∧ k < b + 55 ∧ 0 ≤ j ∧ j < 2)) → N7 k j = M (k - (b - d)) j := fun k j q => by
    rw [hN7, mv_in (by first | exact q | omega)]
    try rw [show ∀ x : Int, b + x - (d + x) = b - d from fun x => by omega]
    all_goals first | rfl | exact s6 _ _ (by first | omega | (unfold RLw at q; omega) | (unfold RLk at q; omega) | (unfold RTh at q; omega))
  have n7 : ∀ k j, ¬ ((k = b ∧ (j = 14 ∨ j = 19)) ∨ (b + 20 ≤ k ∧ k < b + 30 ∧ 0 ≤ j ∧ j < 2) ∨ (b + 43 ≤ k ∧ k < b + 55 ∧ 0 ≤ j ∧ j < 2)) → N7 k j = N6 k j := fun k j q => by
    rw [hN7]
    exact mv_out (fun z => q (by first | exact z | omega))
  have s7 : ∀ k j, (k < b ∨ b + 293 ≤ k) → N7 k j = M k j := fun k j z => by
    rw [n7 k j (fun q => by first | omega | (unfold RLw at q; omega) | (unfold RLk at q; omega) | (unfold RTh at q; omega))]
    exact s6 k j z
  clear hN7
  refine e_aload_n (i := 1) 60 dX8_copyFrom_59 rfl rfl rfl ?_
  refine e_getr (j := 15) 63 fl_8_57 dX8_copyFrom_60 (sbo_at hd) rfl rfl (sb_t15 hd) rfl ?_
  refine e_aload_n (i := 0) 64 dX8_copyFrom_63 rfl rfl rfl ?_
  refine e_getr (j := 15) 67 fl_8_57 dX8_copyFrom_64 (sbo_at hb) rfl rfl (sb_t15 hb) rfl ?_
  refine e_callS 70 mt_yX8_copyRows ms_yX8_copyRows wd_1257 (by decide) dX8_copyFrom_67 rfl rfl (Nat.le_of_ble_eq_true rfl) (jroom (by decide)) rfl (c_copyRows (sb_bk hb) (sb_bk hd) (by (try simp (disch := omega) only [jset_k, jset_j, jset_same, true_and, and_true, s7]); omega) (by (try simp (disch := omega) only [jset_k, jset_j, jset_same, true_and, and_true, s7]); omega) (by (try simp (disch := omega) only [jset_k, jset_j, jset_same, true_and, and_true, s7]); omega) ?_)
  dsimp only [jpush]
  (try simp (disch := omega) only [jset_k, jset_j, jset_same, true_and, and_true, s7])
  refine mem_gen2 (P := fun M1 => jE X yX8_copyFrom cX8_copyFrom 2 none 3 Q M1 70 [(0, jR b), (1, jR d)] []) (fun N8 hN8 => ?_)
  have a8 : ∀ k j, (b + 31 ≤ k ∧ k < b + 37 ∧ 0 ≤ j ∧ j < 301) → N8 k j = M (k - (b - d)) j := fun k j q => by
    rw [hN8, mv_in (by first | exact q | omega)]
    try rw [show ∀ x : Int, b + x - (d + x) = b - d from fun x => by omega]
    all_goals first | rfl | exact s7 _ _ (by first | omega | (unfold RLw at q; omega) | (unfold RLk at q; omega) | (unfold RTh at q; omega))
  have n8 : ∀ k j, ¬ (b + 31 ≤ k ∧ k < b + 37 ∧ 0 ≤ j ∧ j < 301) → N8 k j = N7 k j := fun k j q => by
    rw [hN8]
    exact mv_out (fun z => q (by first | exact z | omega))
  have s8 : ∀ k j, (k < b ∨ b + 293 ≤ k) → N8 k j = M k j := fun k j z => by
    rw [n8 k j (fun q => by first | omega | (unfold RLw at q; omega) | (unfold RLk at q; omega) | (unfold RTh at q; omega))]
    exact s7 k j z
  clear hN8
  refine e_aload_n (i := 1) 71 dX8_copyFrom_70 rfl rfl rfl ?_
  refine e_getr (j := 16) 74 fl_8_60 dX8_copyFrom_71 (sbo_at hd) rfl rfl (sb_t16 hd) rfl ?_
  refine e_aload_n (i := 0) 75 dX8_copyFrom_74 rfl rfl rfl ?_
  refine e_getr (j := 16) 78 fl_8_60 dX8_copyFrom_75 (sbo_at hb) rfl rfl (sb_t16 hb) rfl ?_
  refine e_callS 81 mt_yX8_copyRows ms_yX8_copyRows wd_1257 (by decide) dX8_copyFrom_78 rfl rfl (Nat.le_of_ble_eq_true rfl) (jroom (by decide)) rfl (c_copyRows (sb_hd hb) (sb_hd hd) (by (try simp (disch := omega) only [jset_k, jset_j, jset_same, true_and, and_true, s8]); omega) (by (try simp (disch := omega) only [jset_k, jset_j, jset_same, true_and, and_true, s8]); omega) (by (try simp (disch := omega) only [jset_k, jset_j, jset_same, true_and, and_true, s8]); omega) ?_)
  dsimp only [jpush]
  (try simp (disch := omega) only [jset_k, jset_j, jset_same, true_and, and_true, s8])
  refine mem_gen2 (P := fun M1 => jE X yX8_copyFrom cX8_copyFrom 2 none 3 Q M1 81 [(0, jR b), (1, jR d)] []) (fun N9 hN9 => ?_)
  have a9 : ∀ k j, (b + 38 ≤ k ∧ k < b + 42 ∧ 0 ≤ j ∧ j < 5) → N9 k j = M (k - (b - d)) j := fun k j q => by
    rw [hN9, mv_in (by first | exact q | omega)]
    try rw [show ∀ x : Int, b + x - (d + x) = b - d from fun x => by omega]
    all_goals first | rfl | exact s8 _ _ (by first | omega | (unfold RLw at q; omega) | (unfold RLk at q; omega) | (unfold RTh at q; omega))
  have n9 : ∀ k j, ¬ (b + 38 ≤ k ∧ k < b + 42 ∧ 0 ≤ j ∧ j < 5) → N9 k j = N8 k j := fun k j q => by
    rw [hN9]
    exact mv_out (fun z => q (by first | exact z | omega))
  have s9 : ∀ k j, (k < b ∨ b + 293 ≤ k) → N9 k j = M k j := fun k j z => by
    rw [n9 k j (fun q => by first | omega | (unfold RLw at q; omega) | (unfold RLk at q; omega) | (unfold RTh at q; omega))]
    exact s8 k j z
  clear hN9
  refine e_aload_n (i := 0) 82 dX8_copyFrom_81 rfl rfl rfl ?_
  refine e_aload_n (i := 1) 83 dX8_copyFrom_82 rfl rfl rfl ?_
  refine e_geti (j := 17) 86 fl_8_96 dX8_copyFrom_83 (sbo_at hd) (by decide) rfl rfl (fun r83 => ?_)
  simp (disch := omega) only [jset_k, jset_j, jset_same, true_and, and_true, s9] at r83 ⊢
  refine e_puti (j := 17) 89 fl_8_96 dX8_copyFrom_86 (sbo_at hb) rfl rfl rfl (by omega) rfl ?_
  refine mem_gen2 (P := fun M1 => jE X yX8_copyFrom cX8_copyFrom 2 none 3 Q M1 89 [(0, jR b), (1, jR d)] []) (fun N10 hN10 => ?_)
  have a10 : ∀ k j, (k = b ∧ j = 17) → N10 k j = M (k - (b - d)) j := fun k j q => by
    rw [hN10, q.1, q.2, jset_same, show b - (b - d) = d by omega]
  have n10 : ∀ k j, ¬ (k = b ∧ j = 17) → N10 k j = N9 k j := fun k j q => by
    rw [hN10]
    exact if_neg q
  have s10 : ∀ k j, (k < b ∨ b + 293 ≤ k) → N10 k j = M k j := fun k j z => by
    rw [n10 k j (fun q => by first | omega | (unfold RLw at q; omega) | (unfold RLk at q; omega) | (unfold RTh at q; omega))]
    exact s9 k j z
  clear hN10
  refine e_vret dX8_copyFrom_89 ?_
  refine h N10 (fun k j q => ?_) (fun k j q => ?_)
  · unfold RSh at q
    rcases q with q | q | q | q | q | q | q | q | q | q
    · by_cases e10 : k = b ∧ j = 17
      · exact a10 k j e10
      rw [n10 k j e10]
      by_cases e9 : b + 38 ≤ k ∧ k < b + 42 ∧ 0 ≤ j ∧ j < 5
      · exact a9 k j e9
      rw [n9 k j e9]
      by_cases e8 : b + 31 ≤ k ∧ k < b + 37 ∧ 0 ≤ j ∧ j < 301
      · exact a8 k j e8
      rw [n8 k j e8]
      by_cases e7 : (k = b ∧ (j = 14 ∨ j = 19)) ∨ (b + 20 ≤ k ∧ k < b + 30 ∧ 0 ≤ j ∧ j < 2) ∨ (b + 43 ≤ k ∧ k < b + 55 ∧ 0 ≤ j ∧ j < 2)
      · exact a7 k j e7
      rw [n7 k j e7]
      by_cases e6 : RTh b (M d 6) (M d 8) (M d 10) (M d 12) k j
      · exact a6 k j e6
      rw [n6 k j e6]
      by_cases e5 : k = b ∧ j = 4
      · exact a5 k j e5
      rw [n5 k j e5]
      by_cases e4 : RLk (M (d + 11) 1) (b + 11) k j
      · exact a4 k j e4
      rw [n4 k j e4]
      by_cases e3 : k = b ∧ j = 2
      · exact a3 k j e3
      rw [n3 k j e3]
      by_cases e2 : RLw (b + 6) k j
      · exact a2 k j e2
      rw [n2 k j e2]
      exact a1 k j q
    · by_cases e10 : k = b ∧ j = 17
      · exact a10 k j e10
      rw [n10 k j e10]
      by_cases e9 : b + 38 ≤ k ∧ k < b + 42 ∧ 0 ≤ j ∧ j < 5
      · exact a9 k j e9
      rw [n9 k j e9]
      by_cases e8 : b + 31 ≤ k ∧ k < b + 37 ∧ 0 ≤ j ∧ j < 301
      · exact a8 k j e8
      rw [n8 k j e8]
      by_cases e7 : (k = b ∧ (j = 14 ∨ j = 19)) ∨ (b + 20 ≤ k ∧ k < b + 30 ∧ 0 ≤ j ∧ j < 2) ∨ (b + 43 ≤ k ∧ k < b + 55 ∧ 0 ≤ j ∧ j < 2)
      · exact a7 k j e7
      rw [n7 k j e7]
      by_cases e6 : RTh b (M d 6) (M d 8) (M d 10) (M d 12) k j
      · exact a6 k j e6
      rw [n6 k j e6]
      by_cases e5 : k = b ∧ j = 4
      · exact a5 k j e5
      rw [n5 k j e5]
      by_cases e4 : RLk (M (d + 11) 1) (b + 11) k j
      · exact a4 k j e4
      rw [n4 k j e4]
      by_cases e3 : k = b ∧ j = 2
      · exact a3 k j e3
      rw [n3 k j e3]
      exact a2 k j q
    · by_cases e10 : k = b ∧ j = 17
      · exact a10 k j e10
      rw [n10 k j e10]
      by_cases e9 : b + 38 ≤ k ∧ k < b + 42 ∧ 0 ≤ j ∧ j < 5
      · exact a9 k j e9
      rw [n9 k j e9]
      by_cases e8 : b + 31 ≤ k ∧ k < b + 37 ∧ 0 ≤ j ∧ j < 301
      · exact a8 k j e8
      rw [n8 k j e8]
      by_cases e7 : (k = b ∧ (j = 14 ∨ j = 19)) ∨ (b + 20 ≤ k ∧ k < b + 30 ∧ 0 ≤ j ∧ j < 2) ∨ (b + 43 ≤ k ∧ k < b + 55 ∧ 0 ≤ j ∧ j < 2)
      · exact a7 k j e7
      rw [n7 k j e7]
      by_cases e6 : RTh b (M d 6) (M d 8) (M d 10) (M d 12) k j
      · exact a6 k j e6
      rw [n6 k j e6]
      by_cases e5 : k = b ∧ j = 4
      · exact a5 k j e5
      rw [n5 k j e5]
      by_cases e4 : RLk (M (d + 11) 1) (b + 11) k j
      · exact a4 k j e4
      rw [n4 k j e4]
      exact a3 k j q
    · by_cases e10 : k = b ∧ j = 17
      · exact a10 k j e10
      rw [n10 k j e10]
      by_cases e9 : b + 38 ≤ k ∧ k < b + 42 ∧ 0 ≤ j ∧ j < 5
      · exact a9 k j e9
      rw [n9 k j e9]
      by_cases e8 : b + 31 ≤ k ∧ k < b + 37 ∧ 0 ≤ j ∧ j < 301
      · exact a8 k j e8
      rw [n8 k j e8]
      by_cases e7 : (k = b ∧ (j = 14 ∨ j = 19)) ∨ (b + 20 ≤ k ∧ k < b + 30 ∧ 0 ≤ j ∧ j < 2) ∨ (b + 43 ≤ k ∧ k < b + 55 ∧ 0 ≤ j ∧ j < 2)
      · exact a7 k j e7
      rw [n7 k j e7]
      by_cases e6 : RTh b (M d 6) (M d 8) (M d 10) (M d 12) k j
      · exact a6 k j e6
      rw [n6 k j e6]
      by_cases e5 : k = b ∧ j = 4
      · exact a5 k j e5
      rw [n5 k j e5]
      exact a4 k j q
    · by_cases e10 : k = b ∧ j = 17
      · exact a10 k j e10
      rw [n10 k j e10]
      by_cases e9 : b + 38 ≤ k ∧ k < b + 42 ∧ 0 ≤ j ∧ j < 5
      · exact a9 k j e9
      rw [n9 k j e9]
      by_cases e8 : b + 31 ≤ k ∧ k < b + 37 ∧ 0 ≤ j ∧ j < 301
      · exact a8 k j e8
      rw [n8 k j e8]
      by_cases e7 : (k = b ∧ (j = 14 ∨ j = 19)) ∨ (b + 20 ≤ k ∧ k < b + 30 ∧ 0 ≤ j ∧ j < 2) ∨ (b + 43 ≤ k ∧ k < b + 55 ∧ 0 ≤ j ∧ j < 2)
      · exact a7 k j e7
      rw [n7 k j e7]
      by_cases e6 : RTh b (M d 6) (M d 8) (M d 10) (M d 12) k j
      · exact a6 k j e6
      rw [n6 k j e6]
      exact a5 k j q
    · by_cases e10 : k = b ∧ j = 17
      · exact a10 k j e10
      rw [n10 k j e10]
      by_cases e9 : b + 38 ≤ k ∧ k < b + 42 ∧ 0 ≤ j ∧ j < 5
      · exact a9 k j e9
      rw [n9 k j e9]
      by_cases e8 : b + 31 ≤ k ∧ k < b + 37 ∧ 0 ≤ j ∧ j < 301
      · exact a8 k j e8
      rw [n8 k j e8]
      by_cases e7 : (k = b ∧ (j = 14 ∨ j = 19)) ∨ (b + 20 ≤ k ∧ k < b + 30 ∧ 0 ≤ j ∧ j < 2) ∨ (b + 43 ≤ k ∧ k < b + 55 ∧ 0 ≤ j ∧ j < 2)
      · exact a7 k j e7
      rw [n7 k j e7]
      exact a6 k j q
    · by_cases e10 : k = b ∧ j = 17
      · exact a10 k j e10
      rw [n10 k j e10]
      by_cases e9 : b + 38 ≤ k ∧ k < b + 42 ∧ 0 ≤ j ∧ j < 5
      · exact a9 k j e9
      rw [n9 k j e9]
      by_cases e8 : b + 31 ≤ k ∧ k < b + 37 ∧ 0 ≤ j ∧ j < 301
      · exact a8 k j e8
      rw [n8 k j e8]
      exact a7 k j q
    · by_cases e10 : k = b ∧ j = 17
      · exact a10 k j e10
      rw [n10 k j e10]
      by_cases e9 : b + 38 ≤ k ∧ k < b + 42 ∧ 0 ≤ j ∧ j < 5
      · exact a9 k j e9
      rw [n9 k j e9]
      exact a8 k j q
    · by_cases e10 : k = b ∧ j = 17
      · exact a10 k j e10
      rw [n10 k j e10]
      exact a9 k j q
    · exact a10 k j q
  · unfold RSh at q
    simp only [not_or] at q
    obtain ⟨q1, q2, q3, q4, q5, q6, q7, q8, q9, q10⟩ := q
    rw [n10 k j (by first | exact q10 | (simp only [not_or]; exact q10) | omega), n9 k j (by first | exact q9 | (simp only [not_or]; exact q9) | omega), n8 k j (by first | exact q8 | (simp only [not_or]; exact q8) | omega), n7 k j (by first | exact q7 | (simp only [not_or]; exact q7) | omega), n6 k j (by first | exact q6 | (simp only [not_or]; exact q6) | omega), n5 k j (by first | exact q5 | (simp only [not_or]; exact q5) | omega), n4 k j (by first | exact q4 | (simp only [not_or]; exact q4) | omega), n3 k j (by first | exact q3 | (simp only [not_or]; exact q3) | omega), n2 k j (by first | exact q2 | (simp only [not_or]; exact q2) | omega), n1 k j (by first | exact q1 | (simp only [not_or]; exact q1) | omega)]

theorem RSh.mem {M : jM} {b d k j : Int} (hk : M d 6 ≤ 12) (hp : M d 8 ≤ 16) (hl : M d 10 ≤ 60) (ht : M d 12 ≤ 150) (q : RSh M b d k j) : b ≤ k ∧ k < b + 293 := by
  unfold RSh at q
  rcases q with q | q | q | q | q | q | q | q | q | q
  · unfold RLw at q
    omega
  · unfold RLw at q
    omega
  · omega
  · unfold RLk at q
    omega
  · omega
  · unfold RTh at q
    omega
  · omega
  · omega
  · omega
  · omega
