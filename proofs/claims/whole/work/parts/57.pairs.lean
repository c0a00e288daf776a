/-! COPIES: arraycopy, laws, looks, shops; PAIRS: other, image, restore -/
/-- the cells R are those that lie d ahead of them -/
noncomputable def mv (M : jM) (R : Int → Int → Prop) (d : Int) : jM := fun k j => @ite _ (R k j) (Classical.propDecidable _) (M (k - d) j) (M k j)
theorem mv_in {M : jM} {R : Int → Int → Prop} {d k j : Int} (h : R k j) : mv M R d k j = M (k - d) j := if_pos h
theorem mv_out {M : jM} {R : Int → Int → Prop} {d k j : Int} (h : ¬ R k j) : mv M R d k j = M k j := if_neg h
theorem mv_cong {M : jM} {R S : Int → Int → Prop} {d e : Int} (h : ∀ k j, R k j ↔ S k j) (hd : d = e) : mv M R d = mv M S e := by
  have q : R = S := funext fun k => funext fun j => propext (h k j)
  rw [q, hd]
theorem mv_mv {M : jM} {R S : Int → Int → Prop} {d : Int} (h : ∀ k j, S k j → ¬ R (k - d) j) : mv (mv M R d) S d = mv M (fun k j => R k j ∨ S k j) d := by
  funext k j
  by_cases e : S k j
  · rw [mv_in e, mv_out (h k j e), mv_in (Or.inr e)]
  · rw [mv_out e]
    by_cases e2 : R k j
    · rw [mv_in e2, mv_in (Or.inl e2)]
    · rw [mv_out e2, mv_out (fun q => q.elim e2 e)]
theorem mv_set {M : jM} {k j k0 v : Int} (hv : v = M k0 j) : jset M k j v = mv M (fun k' j' => k' = k ∧ j' = j) (k - k0) := by
  funext k' j'
  by_cases e : k' = k ∧ j' = j
  · rw [mv_in e, e.1, e.2, jset_same, hv]
    congr 1
    omega
  · rw [mv_out e]
    exact if_neg e
theorem mv_nil {M : jM} {d : Int} : mv M (fun _ _ => False) d = M := funext fun _ => funext fun _ => mv_out (fun h => h)
theorem jcopied {X : jX} {M : jM} {k0 k1 len : Int} (h0 : 0 ≤ len) (h1 : len ≤ 2147483647) : va_cpy (fun j => Int32.ofInt (M k0 (j : Int))) (fun j => Int32.ofInt (M k1 (j : Int))) (Int32.ofInt 0).toNatClampNeg (Int32.ofInt 0).toNatClampNeg (Int32.ofInt len).toNatClampNeg = (fun j : Nat => Int32.ofInt (mv M (fun k j => k = k1 ∧ 0 ≤ j ∧ j < len) (k1 - k0) k1 (j : Int))) := by
  have e0 : (Int32.ofInt 0).toNatClampNeg = 0 := of_clamp (by omega) (by omega)
  have e1 : (Int32.ofInt len).toNatClampNeg = len.toNat := of_clamp h0 h1
  rw [e0, e1]
  funext j
  unfold va_cpy
  by_cases e : 0 ≤ j ∧ j < 0 + len.toNat
  · rw [if_pos e, mv_in ⟨rfl, by omega, by omega⟩, show k1 - (k1 - k0) = k0 by omega, show 0 + (j - 0) = j by omega]
  · rw [if_neg e, mv_out (by omega)]
theorem jOk.mv {M : jM} (h : jOk M) {R : Int → Int → Prop} {d : Int} (hR : ∀ k j, R k j → (jsh k).1 ≠ 16 → (jsh (k - d)).1 ≠ 16) : jOk (mv M R d) := by
  intro k j
  by_cases e : R k j
  · rw [mv_in e]
    exact ⟨(h (k - d) j).1, fun q => (h (k - d) j).2 (hR k j e q)⟩
  · rw [mv_out e]
    exact h k j
section RCOPY
variable {X : jX} {y : MethodName} {cc : ByteArray} {mL : Nat} {ret : Option FieldType} {R : Room} {QF : jQF} {cells slots n : Nat} {N : jN} {M : jM} {pc : Nat} {ls : List (Nat × jV)} {st : List jV}
theorem e_copy (q : Nat) {k0 k1 len z0 z1 : Int} {ix : Nat} (hml : Cond.methodLink y.cls ix arraycopyName ∈ lw_g) (hdg : decode cc pc = .ok (.invokestatic ix, 3)) (hk0 : jAr n k0 13 z0) (hk1 : jAr n k1 13 z1) (hn : 0 ≤ len ∧ len ≤ z0 ∧ len ≤ z1) (hst : st = [jI len, jI 0, jR k1, jI 0, jR k0]) (hz : 1 ≤ 1) (hfr : jRoom R 0 0 0 cells slots) (hq : pc + 3 = q) (kk : gE X y cc mL ret R QF cells slots n N (mv M (fun k j => k = k1 ∧ 0 ≤ j ∧ j < len) (k1 - k0)) q ls []) : gE X y cc mL ret R QF cells slots n N M pc ls st := by
  subst hq
  subst hst
  intro p l e s m args below meth c H locs lsA C hz9 hR hS hl
  obtain ⟨a0, e1, e2⟩ := jarr (X := X) (N := N) (M := M) hk0 (by decide)
  obtain ⟨a1, f1, f2⟩ := jarr (X := X) (N := N) (M := M) hk1 (by decide)
  have e3 : jar X N M k0 = (z0.toNat, .inl (fun j => Int32.ofInt (M k0 (j : Int)))) := by
    unfold jar
    rw [e1, e2]
    rfl
  have f3 : ∀ M : jM, jar X N M k1 = (z1.toNat, .inl (fun j => Int32.ofInt (M k1 (j : Int)))) := by
    intro M
    unfold jar
    rw [f1, f2]
    rfl
  rw [e3] at a0
  rw [f3] at a1
  have hb0 := hk0.2.2.2
  have hb1 := hk1.2.2.2
  have e0 : (Int32.ofInt 0).toNatClampNeg = 0 := of_clamp (by omega) (by omega)
  have el : (Int32.ofInt len).toNatClampNeg = len.toNat := of_clamp hn.1 (by omega)
  have hlt : ¬ Int32.ofInt len < 0 := by
    rw [of_zero32, of_lt32 (by omega) (by decide)]
    omega
  refine va_copyi C.1 C.2.1 (C.2.2.1.trans hl.1.symm) C.2.2.2.2.2.2.1 (C.2.2.2.2.2.2.2.1 _ hml) (C.2.2.2.2.2.2.2.1 _ wd_709) (C.2.2.2.2.2.2.2.1 _ wd_708) (C.2.2.2.2.2.2.2.1 _ wd_19) C.2.2.2.2.2.2.2.2.2.1 hR.1 jws_D hS k0.toNat k1.toNat 0 0 (ty := .int) (sp := Int32.ofInt 0) (dp := Int32.ofInt 0) (n := Int32.ofInt len) a0 a1 rfl rfl rfl (by decide) (by decide) hlt (by rw [e0, el]; omega) (by rw [e0, el]; omega) (fun i _ => rfl) hfr.1 (by show 0 + (7 + 11) ≤ _; have := hfr.2.1; omega) hdg (fun H1 locs1 hP hD hS1 => ?_)
  rw [jcopied (X := X) (M := M) hn.1 (by omega)] at hP
  have e7 : (k1.toNat : Int) = k1 := Int.toNat_of_nonneg hk1.1
  have e8 : (Sum.inl (X.2.1 (13 - 13), z1.toNat, .inl (fun j : Nat => Int32.ofInt ((mv M (fun k j => k = k1 ∧ 0 ≤ j ∧ j < len) (k1 - k0)) k1 (j : Int)))) : va_E) = jcell X N (mv M (fun k j => k = k1 ∧ 0 ≤ j ∧ j < len) (k1 - k0)) k1 := by
    unfold jcell
    rw [f1, if_neg (by decide), f3]
  rw [e8, jputA hk1.1 (fun _ _ _ => rfl) (fun k' hk' i => (mv_out (fun q => hk' q.1)).symm)] at hP
  refine kk p l e s m args below meth c H1 locs1 lsA C hz9 ⟨hP, hR.2.mv (fun k j q _ => ?_)⟩ hS1 hl
  rw [q.1, show k1 - (k1 - k0) = k0 by omega, e1]
  decide
end RCOPY
def RLw (c : Int) (k j : Int) : Prop := (k = c ∧ (j = 0 ∨ j = 5)) ∨ ((k = c + 1 ∨ k = c + 2 ∨ k = c + 3) ∧ 0 ≤ j ∧ j < 8) ∨ (k = c + 4 ∧ 0 ≤ j ∧ j < 6)
def jLk (c : Int) : Prop := jAt 949 c 2 ∧ (topo c 2 = some (c + 1) ∧ jAr 949 (c + 1) 13 9) ∧ (topo c 3 = some (c + 2) ∧ jAr 949 (c + 2) 13 400) ∧ topo c 4 = some (c + 3) ∧ jAr 949 (c + 3) 13 400
theorem jLk.at {c : Int} (h : jLk c) : jAt 949 c 2 := h.1
theorem jLk.t2 {c : Int} (h : jLk c) : topo c 2 = some (c + 1) := h.2.1.1
theorem jLk.a2 {c : Int} (h : jLk c) : jAr 949 (c + 1) 13 9 := h.2.1.2
theorem jLk.t3 {c : Int} (h : jLk c) : topo c 3 = some (c + 2) := h.2.2.1.1
theorem jLk.a3 {c : Int} (h : jLk c) : jAr 949 (c + 2) 13 400 := h.2.2.1.2
theorem jLk.t4 {c : Int} (h : jLk c) : topo c 4 = some (c + 3) := h.2.2.2.1
theorem jLk.a4 {c : Int} (h : jLk c) : jAr 949 (c + 3) 13 400 := h.2.2.2.2
def RLk (n c : Int) (k j : Int) : Prop := (k = c ∧ (j = 0 ∨ j = 1)) ∨ (k = c + 1 ∧ 0 ≤ j ∧ j < 9) ∨ ((k = c + 2 ∨ k = c + 3) ∧ 0 ≤ j ∧ j < n)
theorem c_LawCp {c d : Int} {M : jM} {Q : Int → jM → Prop} (hL : jLw c) (hD : jLw d) (hx : c + 5 ≤ d ∨ d + 5 ≤ c) (h : Q 0 (mv M (RLw c) (c - d))) : jCt yX1_copyFrom cX1_copyFrom 2 none 1 [jR c, jR d] M Q := by
  refine jCt_of mt_yX1_copyFrom (Nat.le_of_ble_eq_true rfl) (fun X => ?_)
  refine e_aload_n (i := 0) 1 dX1_copyFrom_0 rfl rfl rfl ?_
  refine e_aload_n (i := 1) 2 dX1_copyFrom_1 rfl rfl rfl ?_
  refine e_geti (j := 0) 5 fl_1_27 dX1_copyFrom_2 hD.at (by decide) rfl rfl (fun r2 => ?_)
  refine e_puti (j := 0) 8 fl_1_27 dX1_copyFrom_5 hL.at rfl rfl rfl (by omega) rfl ?_
  refine e_aload_n (i := 0) 9 dX1_copyFrom_8 rfl rfl rfl ?_
  refine e_aload_n (i := 1) 10 dX1_copyFrom_9 rfl rfl rfl ?_
  refine e_geti (j := 5) 13 fl_1_31 dX1_copyFrom_10 hD.at (by decide) rfl rfl (fun r10 => ?_)
  simp (disch := omega) only [jset_k, jset_j, jset_same, true_and, and_true] at r10 ⊢
  refine e_puti (j := 5) 16 fl_1_31 dX1_copyFrom_13 hL.at rfl rfl rfl (by omega) rfl ?_
  refine e_aload_n (i := 1) 17 dX1_copyFrom_16 rfl rfl rfl ?_
  refine e_getr (j := 1) 20 fl_1_9 dX1_copyFrom_17 hD.at rfl rfl hD.t1 rfl ?_
  refine e_iconst 21 dX1_copyFrom_20 rfl ?_
  refine e_aload_n (i := 0) 22 dX1_copyFrom_21 rfl rfl rfl ?_
  refine e_getr (j := 1) 25 fl_1_9 dX1_copyFrom_22 hL.at rfl rfl hL.t1 rfl ?_
  refine e_iconst 26 dX1_copyFrom_25 rfl ?_
  refine e_bipush 28 dX1_copyFrom_26 (by decide) rfl ?_
  refine e_copy 31 wd_707 dX1_copyFrom_28 hD.a1 hL.a1 (by omega) rfl (Nat.le_of_ble_eq_true rfl) (jroom (by decide)) rfl ?_
  refine e_aload_n (i := 1) 32 dX1_copyFrom_31 rfl rfl rfl ?_
  refine e_getr (j := 2) 35 fl_1_15 dX1_copyFrom_32 hD.at rfl rfl hD.t2 rfl ?_
  refine e_iconst 36 dX1_copyFrom_35 rfl ?_
  refine e_aload_n (i := 0) 37 dX1_copyFrom_36 rfl rfl rfl ?_
  refine e_getr (j := 2) 40 fl_1_15 dX1_copyFrom_37 hL.at rfl rfl hL.t2 rfl ?_
  refine e_iconst 41 dX1_copyFrom_40 rfl ?_
  refine e_bipush 43 dX1_copyFrom_41 (by decide) rfl ?_
  refine e_copy 46 wd_707 dX1_copyFrom_43 hD.a2 hL.a2 (by omega) rfl (Nat.le_of_ble_eq_true rfl) (jroom (by decide)) rfl ?_
  refine e_aload_n (i := 1) 47 dX1_copyFrom_46 rfl rfl rfl ?_
  refine e_getr (j := 3) 50 fl_1_18 dX1_copyFrom_47 hD.at rfl rfl hD.t3 rfl ?_
  refine e_iconst 51 dX1_copyFrom_50 rfl ?_
  refine e_aload_n (i := 0) 52 dX1_copyFrom_51 rfl rfl rfl ?_
  refine e_getr (j := 3) 55 fl_1_18 dX1_copyFrom_52 hL.at rfl rfl hL.t3 rfl ?_
  refine e_iconst 56 dX1_copyFrom_55 rfl ?_
  refine e_bipush 58 dX1_copyFrom_56 (by decide) rfl ?_
  refine e_copy 61 wd_707 dX1_copyFrom_58 hD.a3 hL.a3 (by omega) rfl (Nat.le_of_ble_eq_true rfl) (jroom (by decide)) rfl ?_
  refine e_aload_n (i := 1) 62 dX1_copyFrom_61 rfl rfl rfl ?_
  refine e_getr (j := 4) 65 fl_1_21 dX1_copyFrom_62 hD.at rfl rfl hD.t4 rfl ?_
  refine e_iconst 66 dX1_copyFrom_65 rfl ?_
  refine e_aload_n (i := 0) 67 dX1_copyFrom_66 rfl rfl rfl ?_
  refine e_getr (j := 4) 70 fl_1_21 dX1_copyFrom_67 hL.at rfl rfl hL.t4 rfl ?_
  refine e_iconst 71 dX1_copyFrom_70 rfl ?_
  refine e_bipush 73 dX1_copyFrom_71 (by decide) rfl ?_
  refine e_copy 76 wd_707 dX1_copyFrom_73 hD.a4 hL.a4 (by omega) rfl (Nat.le_of_ble_eq_true rfl) (jroom (by decide)) rfl ?_
  refine e_vret dX1_copyFrom_76 ?_
  rw [mv_set (k0 := d) rfl]
  rw [mv_set (M := mv M _ _) (k0 := d) (by rw [mv_out (by omega)])]
  have e1 : c + 1 - (d + 1) = c - d := by omega
  have e2 : c + 2 - (d + 2) = c - d := by omega
  have e3 : c + 3 - (d + 3) = c - d := by omega
  have e4 : c + 4 - (d + 4) = c - d := by omega
  rw [e1, e2, e3, e4, mv_mv (fun k j a b => by omega), mv_mv (fun k j a b => by omega), mv_mv (fun k j a b => by omega), mv_mv (fun k j a b => by omega), mv_mv (fun k j a b => by omega)]
  refine Eq.subst (motive := fun x => Q 0 x) (mv_cong (fun k j => ?_) rfl) h
  unfold RLw
  constructor <;> intro q <;> omega

theorem c_LooksCp {c d : Int} {M : jM} {Q : Int → jM → Prop} (hL : jLk c) (hD : jLk d) (hx : c + 4 ≤ d ∨ d + 4 ≤ c) (hs : 0 ≤ M d 1 ∧ M d 1 ≤ 400) (h : Q 0 (mv M (RLk (M d 1) c) (c - d))) : jCt yX2_copyFrom cX2_copyFrom 2 none 1 [jR c, jR d] M Q := by
  refine jCt_of mt_yX2_copyFrom (Nat.le_of_ble_eq_true rfl) (fun X => ?_)
  refine e_aload_n (i := 0) 1 dX2_copyFrom_0 rfl rfl rfl ?_
  refine e_aload_n (i := 1) 2 dX2_copyFrom_1 rfl rfl rfl ?_
  refine e_geti (j := 0) 5 fl_2_21 dX2_copyFrom_2 hD.at (by decide) rfl rfl (fun r2 => ?_)
  refine e_puti (j := 0) 8 fl_2_21 dX2_copyFrom_5 hL.at rfl rfl rfl (by omega) rfl ?_
  refine e_aload_n (i := 0) 9 dX2_copyFrom_8 rfl rfl rfl ?_
  refine e_aload_n (i := 1) 10 dX2_copyFrom_9 rfl rfl rfl ?_
  refine e_geti (j := 1) 13 fl_2_25 dX2_copyFrom_10 hD.at (by decide) rfl rfl (fun r10 => ?_)
  simp (disch := omega) only [jset_k, jset_j, jset_same, true_and, and_true, mv_out] at r10 ⊢
  refine e_puti (j := 1) 16 fl_2_25 dX2_copyFrom_13 hL.at rfl rfl rfl (by omega) rfl ?_
  refine e_aload_n (i := 1) 17 dX2_copyFrom_16 rfl rfl rfl ?_
  refine e_getr (j := 2) 20 fl_2_9 dX2_copyFrom_17 hD.at rfl rfl hD.t2 rfl ?_
  refine e_iconst 21 dX2_copyFrom_20 rfl ?_
  refine e_aload_n (i := 0) 22 dX2_copyFrom_21 rfl rfl rfl ?_
  refine e_getr (j := 2) 25 fl_2_9 dX2_copyFrom_22 hL.at rfl rfl hL.t2 rfl ?_
  refine e_iconst 26 dX2_copyFrom_25 rfl ?_
  refine e_aload_n (i := 0) 27 dX2_copyFrom_26 rfl rfl rfl ?_
  refine e_getr (j := 2) 30 fl_2_9 dX2_copyFrom_27 hL.at rfl rfl hL.t2 rfl ?_
  refine e_alen 31 dX2_copyFrom_30 hL.a2 (by decide) rfl ?_
  refine e_copy 34 wd_714 dX2_copyFrom_31 hD.a2 hL.a2 (by omega) rfl (Nat.le_of_ble_eq_true rfl) (jroom (by decide)) rfl ?_
  refine e_aload_n (i := 1) 35 dX2_copyFrom_34 rfl rfl rfl ?_
  refine e_getr (j := 3) 38 fl_2_15 dX2_copyFrom_35 hD.at rfl rfl hD.t3 rfl ?_
  refine e_iconst 39 dX2_copyFrom_38 rfl ?_
  refine e_aload_n (i := 0) 40 dX2_copyFrom_39 rfl rfl rfl ?_
  refine e_getr (j := 3) 43 fl_2_15 dX2_copyFrom_40 hL.at rfl rfl hL.t3 rfl ?_
  refine e_iconst 44 dX2_copyFrom_43 rfl ?_
  refine e_aload_n (i := 0) 45 dX2_copyFrom_44 rfl rfl rfl ?_
  refine e_geti (j := 1) 48 fl_2_25 dX2_copyFrom_45 hL.at (by decide) rfl rfl (fun r45 => ?_)
  simp (disch := omega) only [jset_k, jset_j, jset_same, true_and, and_true, mv_out] at r45 ⊢
  refine e_copy 51 wd_714 dX2_copyFrom_48 hD.a3 hL.a3 (by omega) rfl (Nat.le_of_ble_eq_true rfl) (jroom (by decide)) rfl ?_
  refine e_aload_n (i := 1) 52 dX2_copyFrom_51 rfl rfl rfl ?_
  refine e_getr (j := 4) 55 fl_2_18 dX2_copyFrom_52 hD.at rfl rfl hD.t4 rfl ?_
  refine e_iconst 56 dX2_copyFrom_55 rfl ?_
  refine e_aload_n (i := 0) 57 dX2_copyFrom_56 rfl rfl rfl ?_
  refine e_getr (j := 4) 60 fl_2_18 dX2_copyFrom_57 hL.at rfl rfl hL.t4 rfl ?_
  refine e_iconst 61 dX2_copyFrom_60 rfl ?_
  refine e_aload_n (i := 0) 62 dX2_copyFrom_61 rfl rfl rfl ?_
  refine e_geti (j := 1) 65 fl_2_25 dX2_copyFrom_62 hL.at (by decide) rfl rfl (fun r62 => ?_)
  simp (disch := omega) only [jset_k, jset_j, jset_same, true_and, and_true, mv_out] at r62 ⊢
  refine e_copy 68 wd_714 dX2_copyFrom_65 hD.a4 hL.a4 (by omega) rfl (Nat.le_of_ble_eq_true rfl) (jroom (by decide)) rfl ?_
  refine e_vret dX2_copyFrom_68 ?_
  rw [mv_set (k0 := d) rfl]
  rw [mv_set (M := mv M _ _) (k0 := d) (by rw [mv_out (by omega)])]
  have e1 : c + 1 - (d + 1) = c - d := by omega
  have e2 : c + 2 - (d + 2) = c - d := by omega
  have e3 : c + 3 - (d + 3) = c - d := by omega
  rw [e1, e2, e3, mv_mv (fun k j a b => by omega), mv_mv (fun k j a b => by omega), mv_mv (fun k j a b => by omega), mv_mv (fun k j a b => by omega)]
  refine Eq.subst (motive := fun x => Q 0 x) (mv_cong (fun k j => ?_) rfl) h
  unfold RLk
  constructor <;> intro q <;> omega

theorem c_KindCp {c d : Int} {M : jM} {Q : Int → jM → Prop} (hL : jAt 949 c 0) (hD : jAt 949 d 0) (hx : c ≠ d) (hb : M d 4 = 0 ∨ M d 4 = 1) (h : Q 0 (mv M (fun k j => k = c ∧ 0 ≤ j ∧ j < 5) (c - d))) : jCt yX0_copyFrom cX0_copyFrom 2 none 1 [jR c, jR d] M Q := by
  refine jCt_of mt_yX0_copyFrom (Nat.le_of_ble_eq_true rfl) (fun X => ?_)
  refine e_aload_n (i := 0) 1 dX0_copyFrom_0 rfl rfl rfl ?_
  refine e_aload_n (i := 1) 2 dX0_copyFrom_1 rfl rfl rfl ?_
  refine e_geti (j := 0) 5 fl_0_7 dX0_copyFrom_2 hD (by decide) rfl rfl (fun r2 => ?_)
  refine e_puti (j := 0) 8 fl_0_7 dX0_copyFrom_5 hL rfl rfl rfl (by omega) rfl ?_
  refine e_aload_n (i := 0) 9 dX0_copyFrom_8 rfl rfl rfl ?_
  refine e_aload_n (i := 1) 10 dX0_copyFrom_9 rfl rfl rfl ?_
  refine e_geti (j := 1) 13 fl_0_13 dX0_copyFrom_10 hD (by decide) rfl rfl (fun r10 => ?_)
  simp (disch := omega) only [jset_k, jset_j, jset_same, true_and, and_true] at r10 ⊢
  refine e_puti (j := 1) 16 fl_0_13 dX0_copyFrom_13 hL rfl rfl rfl (by omega) rfl ?_
  refine e_aload_n (i := 0) 17 dX0_copyFrom_16 rfl rfl rfl ?_
  refine e_aload_n (i := 1) 18 dX0_copyFrom_17 rfl rfl rfl ?_
  refine e_geti (j := 2) 21 fl_0_16 dX0_copyFrom_18 hD (by decide) rfl rfl (fun r18 => ?_)
  simp (disch := omega) only [jset_k, jset_j, jset_same, true_and, and_true] at r18 ⊢
  refine e_puti (j := 2) 24 fl_0_16 dX0_copyFrom_21 hL rfl rfl rfl (by omega) rfl ?_
  refine e_aload_n (i := 0) 25 dX0_copyFrom_24 rfl rfl rfl ?_
  refine e_aload_n (i := 1) 26 dX0_copyFrom_25 rfl rfl rfl ?_
  refine e_geti (j := 3) 29 fl_0_19 dX0_copyFrom_26 hD (by decide) rfl rfl (fun r26 => ?_)
  simp (disch := omega) only [jset_k, jset_j, jset_same, true_and, and_true] at r26 ⊢
  refine e_puti (j := 3) 32 fl_0_19 dX0_copyFrom_29 hL rfl rfl rfl (by omega) rfl ?_
  refine e_aload_n (i := 0) 33 dX0_copyFrom_32 rfl rfl rfl ?_
  refine e_aload_n (i := 1) 34 dX0_copyFrom_33 rfl rfl rfl ?_
  refine e_geti (j := 4) 37 fl_0_22 dX0_copyFrom_34 hD (by decide) rfl rfl (fun r34 => ?_)
  simp (disch := omega) only [jset_k, jset_j, jset_same, true_and, and_true] at r34 ⊢
  refine e_putz (j := 4) 40 fl_0_22 dX0_copyFrom_37 hL rfl rfl rfl (by omega) rfl ?_
  refine e_vret dX0_copyFrom_40 ?_
  rw [mv_set (k0 := d) rfl]
  rw [mv_set (M := mv M _ _) (k0 := d) (by rw [mv_out (by omega)]), mv_mv (fun k j a b => by omega)]
  rw [mv_set (M := mv M _ _) (k0 := d) (by rw [mv_out (by omega)]), mv_mv (fun k j a b => by omega)]
  rw [mv_set (M := mv M _ _) (k0 := d) (by rw [mv_out (by omega)]), mv_mv (fun k j a b => by omega)]
  rw [mv_set (M := mv M _ _) (k0 := d) (by rw [mv_out (by omega)]), mv_mv (fun k j a b => by omega)]
  refine Eq.subst (motive := fun x => Q 0 x) (mv_cong (fun k j => ?_) rfl) h
  constructor <;> intro q <;> omega

theorem c_PersonCp {c d : Int} {M : jM} {Q : Int → jM → Prop} (hL : jAt 949 c 3) (hD : jAt 949 d 3) (hx : c ≠ d) (h : Q 0 (mv M (fun k j => k = c ∧ 0 ≤ j ∧ j < 5) (c - d))) : jCt yX3_copyFrom cX3_copyFrom 2 none 1 [jR c, jR d] M Q := by
  refine jCt_of mt_yX3_copyFrom (Nat.le_of_ble_eq_true rfl) (fun X => ?_)
  refine e_aload_n (i := 0) 1 dX3_copyFrom_0 rfl rfl rfl ?_
  refine e_aload_n (i := 1) 2 dX3_copyFrom_1 rfl rfl rfl ?_
  refine e_geti (j := 0) 5 fl_3_7 dX3_copyFrom_2 hD (by decide) rfl rfl (fun r2 => ?_)
  refine e_puti (j := 0) 8 fl_3_7 dX3_copyFrom_5 hL rfl rfl rfl (by omega) rfl ?_
  refine e_aload_n (i := 0) 9 dX3_copyFrom_8 rfl rfl rfl ?_
  refine e_aload_n (i := 1) 10 dX3_copyFrom_9 rfl rfl rfl ?_
  refine e_geti (j := 1) 13 fl_3_13 dX3_copyFrom_10 hD (by decide) rfl rfl (fun r10 => ?_)
  simp (disch := omega) only [jset_k, jset_j, jset_same, true_and, and_true] at r10 ⊢
  refine e_puti (j := 1) 16 fl_3_13 dX3_copyFrom_13 hL rfl rfl rfl (by omega) rfl ?_
  refine e_aload_n (i := 0) 17 dX3_copyFrom_16 rfl rfl rfl ?_
  refine e_aload_n (i := 1) 18 dX3_copyFrom_17 rfl rfl rfl ?_
  refine e_geti (j := 2) 21 fl_3_16 dX3_copyFrom_18 hD (by decide) rfl rfl (fun r18 => ?_)
  simp (disch := omega) only [jset_k, jset_j, jset_same, true_and, and_true] at r18 ⊢
  refine e_puti (j := 2) 24 fl_3_16 dX3_copyFrom_21 hL rfl rfl rfl (by omega) rfl ?_
  refine e_aload_n (i := 0) 25 dX3_copyFrom_24 rfl rfl rfl ?_
  refine e_aload_n (i := 1) 26 dX3_copyFrom_25 rfl rfl rfl ?_
  refine e_geti (j := 3) 29 fl_3_19 dX3_copyFrom_26 hD (by decide) rfl rfl (fun r26 => ?_)
  simp (disch := omega) only [jset_k, jset_j, jset_same, true_and, and_true] at r26 ⊢
  refine e_puti (j := 3) 32 fl_3_19 dX3_copyFrom_29 hL rfl rfl rfl (by omega) rfl ?_
  refine e_aload_n (i := 0) 33 dX3_copyFrom_32 rfl rfl rfl ?_
  refine e_aload_n (i := 1) 34 dX3_copyFrom_33 rfl rfl rfl ?_
  refine e_geti (j := 4) 37 fl_3_22 dX3_copyFrom_34 hD (by decide) rfl rfl (fun r34 => ?_)
  simp (disch := omega) only [jset_k, jset_j, jset_same, true_and, and_true] at r34 ⊢
  refine e_puti (j := 4) 40 fl_3_22 dX3_copyFrom_37 hL rfl rfl rfl (by omega) rfl ?_
  refine e_vret dX3_copyFrom_40 ?_
  rw [mv_set (k0 := d) rfl]
  rw [mv_set (M := mv M _ _) (k0 := d) (by rw [mv_out (by omega)]), mv_mv (fun k j a b => by omega)]
  rw [mv_set (M := mv M _ _) (k0 := d) (by rw [mv_out (by omega)]), mv_mv (fun k j a b => by omega)]
  rw [mv_set (M := mv M _ _) (k0 := d) (by rw [mv_out (by omega)]), mv_mv (fun k j a b => by omega)]
  rw [mv_set (M := mv M _ _) (k0 := d) (by rw [mv_out (by omega)]), mv_mv (fun k j a b => by omega)]
  refine Eq.subst (motive := fun x => Q 0 x) (mv_cong (fun k j => ?_) rfl) h
  constructor <;> intro q <;> omega

theorem c_PledgeCp {c d : Int} {M : jM} {Q : Int → jM → Prop} (hL : jAt 949 c 5) (hD : jAt 949 d 5) (hx : c ≠ d) (h : Q 0 (mv M (fun k j => k = c ∧ 0 ≤ j ∧ j < 13) (c - d))) : jCt yX5_copyFrom cX5_copyFrom 2 none 1 [jR c, jR d] M Q := by
  refine jCt_of mt_yX5_copyFrom (Nat.le_of_ble_eq_true rfl) (fun X => ?_)
  refine e_aload_n (i := 0) 1 dX5_copyFrom_0 rfl rfl rfl ?_
  refine e_aload_n (i := 1) 2 dX5_copyFrom_1 rfl rfl rfl ?_
  refine e_geti (j := 0) 5 fl_5_9 dX5_copyFrom_2 hD (by decide) rfl rfl (fun r2 => ?_)
  refine e_puti (j := 0) 8 fl_5_9 dX5_copyFrom_5 hL rfl rfl rfl (by omega) rfl ?_
  refine e_aload_n (i := 0) 9 dX5_copyFrom_8 rfl rfl rfl ?_
  refine e_aload_n (i := 1) 10 dX5_copyFrom_9 rfl rfl rfl ?_
  refine e_geti (j := 1) 13 fl_5_15 dX5_copyFrom_10 hD (by decide) rfl rfl (fun r10 => ?_)
  simp (disch := omega) only [jset_k, jset_j, jset_same, true_and, and_true] at r10 ⊢
  refine e_puti (j := 1) 16 fl_5_15 dX5_copyFrom_13 hL rfl rfl rfl (by omega) rfl ?_
  refine e_aload_n (i := 0) 17 dX5_copyFrom_16 rfl rfl rfl ?_
  refine e_aload_n (i := 1) 18 dX5_copyFrom_17 rfl rfl rfl ?_
  refine e_geti (j := 2) 21 fl_5_18 dX5_copyFrom_18 hD (by decide) rfl rfl (fun r18 => ?_)
  simp (disch := omega) only [jset_k, jset_j, jset_same, true_and, and_true] at r18 ⊢
  refine e_puti (j := 2) 24 fl_5_18 dX5_copyFrom_21 hL rfl rfl rfl (by omega) rfl ?_
  refine e_aload_n (i := 0) 25 dX5_copyFrom_24 rfl rfl rfl ?_
  refine e_aload_n (i := 1) 26 dX5_copyFrom_25 rfl rfl rfl ?_
  refine e_geti (j := 3) 29 fl_5_21 dX5_copyFrom_26 hD (by decide) rfl rfl (fun r26 => ?_)
  simp (disch := omega) only [jset_k, jset_j, jset_same, true_and, and_true] at r26 ⊢
  refine e_puti (j := 3) 32 fl_5_21 dX5_copyFrom_29 hL rfl rfl rfl (by omega) rfl ?_
  refine e_aload_n (i := 0) 33 dX5_copyFrom_32 rfl rfl rfl ?_
  refine e_aload_n (i := 1) 34 dX5_copyFrom_33 rfl rfl rfl ?_
  refine e_geti (j := 4) 37 fl_5_24 dX5_copyFrom_34 hD (by decide) rfl rfl (fun r34 => ?_)
  simp (disch := omega) only [jset_k, jset_j, jset_same, true_and, and_true] at r34 ⊢
  refine e_puti (j := 4) 40 fl_5_24 dX5_copyFrom_37 hL rfl rfl rfl (by omega) rfl ?_
  refine e_aload_n (i := 0) 41 dX5_copyFrom_40 rfl rfl rfl ?_
  refine e_aload_n (i := 1) 42 dX5_copyFrom_41 rfl rfl rfl ?_
  refine e_geti (j := 5) 45 fl_5_27 dX5_copyFrom_42 hD (by decide) rfl rfl (fun r42 => ?_)
  simp (disch := omega) only [jset_k, jset_j, jset_same, true_and, and_true] at r42 ⊢
  refine e_puti (j := 5) 48 fl_5_27 dX5_copyFrom_45 hL rfl rfl rfl (by omega) rfl ?_
  refine e_aload_n (i := 0) 49 dX5_copyFrom_48 rfl rfl rfl ?_
  refine e_aload_n (i := 1) 50 dX5_copyFrom_49 rfl rfl rfl ?_
  refine e_geti (j := 6) 53 fl_5_30 dX5_copyFrom_50 hD (by decide) rfl rfl (fun r50 => ?_)
  simp (disch := omega) only [jset_k, jset_j, jset_same, true_and, and_true] at r50 ⊢
  refine e_puti (j := 6) 56 fl_5_30 dX5_copyFrom_53 hL rfl rfl rfl (by omega) rfl ?_
  refine e_aload_n (i := 0) 57 dX5_copyFrom_56 rfl rfl rfl ?_
  refine e_aload_n (i := 1) 58 dX5_copyFrom_57 rfl rfl rfl ?_
  refine e_geti (j := 7) 61 fl_5_33 dX5_copyFrom_58 hD (by decide) rfl rfl (fun r58 => ?_)
  simp (disch := omega) only [jset_k, jset_j, jset_same, true_and, and_true] at r58 ⊢
  refine e_puti (j := 7) 64 fl_5_33 dX5_copyFrom_61 hL rfl rfl rfl (by omega) rfl ?_
  refine e_aload_n (i := 0) 65 dX5_copyFrom_64 rfl rfl rfl ?_
  refine e_aload_n (i := 1) 66 dX5_copyFrom_65 rfl rfl rfl ?_
  refine e_geti (j := 8) 69 fl_5_36 dX5_copyFrom_66 hD (by decide) rfl rfl (fun r66 => ?_)
  simp (disch := omega) only [jset_k, jset_j, jset_same, true_and, and_true] at r66 ⊢
  refine e_puti (j := 8) 72 fl_5_36 dX5_copyFrom_69 hL rfl rfl rfl (by omega) rfl ?_
  refine e_aload_n (i := 0) 73 dX5_copyFrom_72 rfl rfl rfl ?_
  refine e_aload_n (i := 1) 74 dX5_copyFrom_73 rfl rfl rfl ?_
  refine e_geti (j := 9) 77 fl_5_39 dX5_copyFrom_74 hD (by decide) rfl rfl (fun r74 => ?_)
  simp (disch := omega) only [jset_k, jset_j, jset_same, true_and, and_true] at r74 ⊢
  refine e_puti (j := 9) 80 fl_5_39 dX5_copyFrom_77 hL rfl rfl rfl (by omega) rfl ?_
  refine e_aload_n (i := 0) 81 dX5_copyFrom_80 rfl rfl rfl ?_
  refine e_aload_n (i := 1) 82 dX5_copyFrom_81 rfl rfl rfl ?_
  refine e_geti (j := 10) 85 fl_5_42 dX5_copyFrom_82 hD (by decide) rfl rfl (fun r82 => ?_)
  simp (disch := omega) only [jset_k, jset_j, jset_same, true_and, and_true] at r82 ⊢
  refine e_puti (j := 10) 88 fl_5_42 dX5_copyFrom_85 hL rfl rfl rfl (by omega) rfl ?_
  refine e_aload_n (i := 0) 89 dX5_copyFrom_88 rfl rfl rfl ?_
  refine e_aload_n (i := 1) 90 dX5_copyFrom_89 rfl rfl rfl ?_
  refine e_geti (j := 11) 93 fl_5_45 dX5_copyFrom_90 hD (by decide) rfl rfl (fun r90 => ?_)
  simp (disch := omega) only [jset_k, jset_j, jset_same, true_and, and_true] at r90 ⊢
  refine e_puti (j := 11) 96 fl_5_45 dX5_copyFrom_93 hL rfl rfl rfl (by omega) rfl ?_
  refine e_aload_n (i := 0) 97 dX5_copyFrom_96 rfl rfl rfl ?_
  refine e_aload_n (i := 1) 98 dX5_copyFrom_97 rfl rfl rfl ?_
  refine e_geti (j := 12) 101 fl_5_48 dX5_copyFrom_98 hD (by decide) rfl rfl (fun r98 => ?_)
  simp (disch := omega) only [jset_k, jset_j, jset_same, true_and, and_true] at r98 ⊢
  refine e_puti (j := 12) 104 fl_5_48 dX5_copyFrom_101 hL rfl rfl rfl (by omega) rfl ?_
  refine e_vret dX5_copyFrom_104 ?_
  rw [mv_set (k0 := d) rfl]
  rw [mv_set (M := mv M _ _) (k0 := d) (by rw [mv_out (by omega)]), mv_mv (fun k j a b => by omega)]
  rw [mv_set (M := mv M _ _) (k0 := d) (by rw [mv_out (by omega)]), mv_mv (fun k j a b => by omega)]
  rw [mv_set (M := mv M _ _) (k0 := d) (by rw [mv_out (by omega)]), mv_mv (fun k j a b => by omega)]
  rw [mv_set (M := mv M _ _) (k0 := d) (by rw [mv_out (by omega)]), mv_mv (fun k j a b => by omega)]
  rw [mv_set (M := mv M _ _) (k0 := d) (by rw [mv_out (by omega)]), mv_mv (fun k j a b => by omega)]
  rw [mv_set (M := mv M _ _) (k0 := d) (by rw [mv_out (by omega)]), mv_mv (fun k j a b => by omega)]
  rw [mv_set (M := mv M _ _) (k0 := d) (by rw [mv_out (by omega)]), mv_mv (fun k j a b => by omega)]
  rw [mv_set (M := mv M _ _) (k0 := d) (by rw [mv_out (by omega)]), mv_mv (fun k j a b => by omega)]
  rw [mv_set (M := mv M _ _) (k0 := d) (by rw [mv_out (by omega)]), mv_mv (fun k j a b => by omega)]
  rw [mv_set (M := mv M _ _) (k0 := d) (by rw [mv_out (by omega)]), mv_mv (fun k j a b => by omega)]
  rw [mv_set (M := mv M _ _) (k0 := d) (by rw [mv_out (by omega)]), mv_mv (fun k j a b => by omega)]
  rw [mv_set (M := mv M _ _) (k0 := d) (by rw [mv_out (by omega)]), mv_mv (fun k j a b => by omega)]
  refine Eq.subst (motive := fun x => Q 0 x) (mv_cong (fun k j => ?_) rfl) h
  constructor <;> intro q <;> omega

theorem c_TicketCp {c d : Int} {M : jM} {Q : Int → jM → Prop} (hL : jAt 949 c 10) (hD : jAt 949 d 10) (hx : c ≠ d) (hb : M d 3 = 0 ∨ M d 3 = 1) (h : Q 0 (mv M (fun k j => k = c ∧ 0 ≤ j ∧ j < 4) (c - d))) : jCt yX10_copyFrom cX10_copyFrom 2 none 1 [jR c, jR d] M Q := by
  refine jCt_of mt_yX10_copyFrom (Nat.le_of_ble_eq_true rfl) (fun X => ?_)
  refine e_aload_n (i := 0) 1 dX10_copyFrom_0 rfl rfl rfl ?_
  refine e_aload_n (i := 1) 2 dX10_copyFrom_1 rfl rfl rfl ?_
  refine e_geti (j := 0) 5 fl_10_7 dX10_copyFrom_2 hD (by decide) rfl rfl (fun r2 => ?_)
  refine e_puti (j := 0) 8 fl_10_7 dX10_copyFrom_5 hL rfl rfl rfl (by omega) rfl ?_
  refine e_aload_n (i := 0) 9 dX10_copyFrom_8 rfl rfl rfl ?_
  refine e_aload_n (i := 1) 10 dX10_copyFrom_9 rfl rfl rfl ?_
  refine e_geti (j := 1) 13 fl_10_13 dX10_copyFrom_10 hD (by decide) rfl rfl (fun r10 => ?_)
  simp (disch := omega) only [jset_k, jset_j, jset_same, true_and, and_true] at r10 ⊢
  refine e_puti (j := 1) 16 fl_10_13 dX10_copyFrom_13 hL rfl rfl rfl (by omega) rfl ?_
  refine e_aload_n (i := 0) 17 dX10_copyFrom_16 rfl rfl rfl ?_
  refine e_aload_n (i := 1) 18 dX10_copyFrom_17 rfl rfl rfl ?_
  refine e_geti (j := 2) 21 fl_10_16 dX10_copyFrom_18 hD (by decide) rfl rfl (fun r18 => ?_)
  simp (disch := omega) only [jset_k, jset_j, jset_same, true_and, and_true] at r18 ⊢
  refine e_puti (j := 2) 24 fl_10_16 dX10_copyFrom_21 hL rfl rfl rfl (by omega) rfl ?_
  refine e_aload_n (i := 0) 25 dX10_copyFrom_24 rfl rfl rfl ?_
  refine e_aload_n (i := 1) 26 dX10_copyFrom_25 rfl rfl rfl ?_
  refine e_geti (j := 3) 29 fl_10_19 dX10_copyFrom_26 hD (by decide) rfl rfl (fun r26 => ?_)
  simp (disch := omega) only [jset_k, jset_j, jset_same, true_and, and_true] at r26 ⊢
  refine e_putz (j := 3) 32 fl_10_19 dX10_copyFrom_29 hL rfl rfl rfl (by omega) rfl ?_
  refine e_vret dX10_copyFrom_32 ?_
  rw [mv_set (k0 := d) rfl]
  rw [mv_set (M := mv M _ _) (k0 := d) (by rw [mv_out (by omega)]), mv_mv (fun k j a b => by omega)]
  rw [mv_set (M := mv M _ _) (k0 := d) (by rw [mv_out (by omega)]), mv_mv (fun k j a b => by omega)]
  rw [mv_set (M := mv M _ _) (k0 := d) (by rw [mv_out (by omega)]), mv_mv (fun k j a b => by omega)]
  refine Eq.subst (motive := fun x => Q 0 x) (mv_cong (fun k j => ?_) rfl) h
  constructor <;> intro q <;> omega

