/-! LOOKS *** bits of a long as a pile *** facts -/
theorem lN_ext {w : Int64} {z : Nat} (h : ∀ i, i < 64 → w.toBitVec.getLsbD i = z.testBit i) : w = lN z := by
  apply wb_inj
  rw [wb_tb]
  apply BitVec.eq_of_getLsbD_eq
  intro i hi
  rw [h i hi, BitVec.getLsbD_ofNat]
  simp [hi]
theorem lN_bit {z i : Nat} (hi : i < 64) : (lN z).toBitVec.getLsbD i = z.testBit i := by
  rw [wb_tb, BitVec.getLsbD_ofNat]
  simp [hi]
theorem b64_1 : ∀ i, i < 64 → (Int64.ofInt 1).toBitVec.getLsbD i = decide (i = 0) := by decide +kernel
theorem b64_m2 : ∀ i, i < 64 → (Int64.ofInt (-2)).toBitVec.getLsbD i = decide (1 ≤ i) := by decide +kernel
theorem of_nat64 (z : Nat) : Int64.ofInt (z : Int) = lN z := rfl
theorem tb_split (z i : Nat) : z.testBit i = if i = 0 then decide (z % 2 = 1) else (z / 2).testBit (i - 1) := by
  rcases i with _ | i
  · rw [if_pos rfl, Nat.testBit_zero]
  · rw [if_neg (by omega), Nat.testBit_add_one]
    rfl
theorem jL_of {w : Int64} {z : Nat} (h : w = lN z) (hz : z < 2 ^ 63) : w.toInt = (z : Int) := by
  rw [h]
  exact pf_lI hz
theorem L_xor {p : Nat} (h : p < 2 ^ 62) : jxorL p 1 = ((2 * (p / 2) + (1 - p % 2) : Nat) : Int) := by
  unfold jxorL
  refine jL_of (lN_ext (fun i hi => ?_)) (by omega)
  rw [Int64.toBitVec_xor, BitVec.getLsbD_xor, of_nat64, lN_bit hi, b64_1 i hi, tb_split p, tb_split (2 * (p / 2) + (1 - p % 2))]
  by_cases e : i = 0
  · rw [if_pos e, if_pos e, decide_eq_true e]
    rcases (by omega : p % 2 = 0 ∨ p % 2 = 1) with q | q
    · rw [q, show (2 * (p / 2) + (1 - 0)) % 2 = 1 by omega]
      rfl
    · rw [q, show (2 * (p / 2) + (1 - 1)) % 2 = 0 by omega]
      rfl
  · rw [if_neg e, if_neg e, decide_eq_false e, show (2 * (p / 2) + (1 - p % 2)) / 2 = p / 2 by omega, Bool.xor_false]
theorem L_shr {p : Nat} (h : p < 2 ^ 62) : jshrL p 1 = ((p / 2 : Nat) : Int) := by
  have hd : ((Int32.ofInt 1).toInt64 &&& 63) = lN 1 := wb_c 1 (by omega)
  unfold jshrL
  rw [hd, of_nat64]
  have hD : ((lN 1).toBitVec.smod 64).toNat = 1 := by decide +kernel
  have e := pf_shr (a := p) hD h
  rw [show (2 : Nat) ^ 1 = 2 by decide] at e
  exact jL_of e (by omega)
theorem L_shl {p : Nat} (h : p < 2 ^ 61) : jshlL p 1 = ((2 * p : Nat) : Int) := by
  have e := wb_shl p (k := 1) (by omega)
  unfold jshlL
  rw [of_nat64]
  refine jL_of (Eq.trans e ?_) (by omega)
  rw [show (2 : Nat) ^ 1 = 2 by decide, Nat.mul_comm]
theorem L_and1 {p : Nat} (h : p < 2 ^ 62) : jandL p 1 = ((p % 2 : Nat) : Int) := by
  unfold jandL
  refine jL_of (lN_ext (fun i hi => ?_)) (by omega)
  rw [Int64.toBitVec_and, BitVec.getLsbD_and, of_nat64, lN_bit hi, b64_1 i hi, tb_split p, tb_split (p % 2)]
  by_cases e : i = 0
  · rw [if_pos e, if_pos e, decide_eq_true e, Bool.and_true, Nat.mod_mod]
  · rw [if_neg e, if_neg e, decide_eq_false e, Bool.and_false, show p % 2 / 2 = 0 by omega, Nat.zero_testBit]
theorem L_and {y p : Nat} (hy : y < 2 ^ 62) (h : p < 2 ^ 62) : jandL y (jorL p (-2)) = ((2 * (y / 2) + (y % 2) * (p % 2) : Nat) : Int) := by
  have hb : (y % 2) * (p % 2) ≤ 1 ∧ ((y % 2) * (p % 2) = 1 ↔ y % 2 = 1 ∧ p % 2 = 1) := by
    rcases (by omega : y % 2 = 0 ∨ y % 2 = 1) with q | q <;> rcases (by omega : p % 2 = 0 ∨ p % 2 = 1) with r | r <;> rw [q, r] <;> decide
  unfold jandL jorL
  rw [of_to64]
  refine jL_of (lN_ext (fun i hi => ?_)) (by omega)
  rw [Int64.toBitVec_and, BitVec.getLsbD_and, Int64.toBitVec_or, BitVec.getLsbD_or, of_nat64, of_nat64, lN_bit hi, lN_bit hi, b64_m2 i hi, tb_split y, tb_split p, tb_split (2 * (y / 2) + (y % 2) * (p % 2))]
  by_cases e : i = 0
  · rw [if_pos e, if_pos e, if_pos e, decide_eq_false (show ¬ 1 ≤ i by omega), Bool.or_false, show (2 * (y / 2) + (y % 2) * (p % 2)) % 2 = (y % 2) * (p % 2) by omega, ← Bool.decide_and]
    congr 1
    exact propext hb.2.symm
  · rw [if_neg e, if_neg e, if_neg e, decide_eq_true (show 1 ≤ i by omega), Bool.or_true, Bool.and_true, show (2 * (y / 2) + (y % 2) * (p % 2)) / 2 = y / 2 by omega]
theorem L_or {y p : Nat} (hy : y < 2 ^ 62) (h : p < 2 ^ 62) : jorL y (jandL p 1) = ((2 * (y / 2) + max (y % 2) (p % 2) : Nat) : Int) := by
  rw [L_and1 h]
  unfold jorL
  refine jL_of (lN_ext (fun i hi => ?_)) (by omega)
  rw [Int64.toBitVec_or, BitVec.getLsbD_or, of_nat64, of_nat64, lN_bit hi, lN_bit hi, tb_split y, tb_split (p % 2), tb_split (2 * (y / 2) + max (y % 2) (p % 2))]
  by_cases e : i = 0
  · rw [if_pos e, if_pos e, if_pos e, ← Bool.decide_or]
    congr 1
    exact propext ⟨fun q => by omega, fun q => by omega⟩
  · rw [if_neg e, if_neg e, if_neg e, show p % 2 / 2 = 0 by omega, Nat.zero_testBit, Bool.or_false, show (2 * (y / 2) + max (y % 2) (p % 2)) / 2 = y / 2 by omega]
theorem L_push {p c : Nat} (h : p < 2 ^ 61) (hc : c ≤ 1) : jorL (jshlL p 1) c = ((2 * p + c : Nat) : Int) := by
  rw [L_shl h]
  unfold jorL
  refine jL_of (lN_ext (fun i hi => ?_)) (by omega)
  rw [Int64.toBitVec_or, BitVec.getLsbD_or, of_nat64, of_nat64, lN_bit hi, lN_bit hi, tb_split (2 * p), tb_split c, tb_split (2 * p + c)]
  by_cases e : i = 0
  · rw [if_pos e, if_pos e, if_pos e, ← Bool.decide_or]
    congr 1
    exact propext ⟨fun q => by omega, fun q => by omega⟩
  · rw [if_neg e, if_neg e, if_neg e, show c / 2 = 0 by omega, Nat.zero_testBit, Bool.or_false, show (2 * p + c) / 2 = 2 * p / 2 by omega]
/-- a pile of answers, the last one first, as a number -/
def vL : List Bool → Nat
  | [] => 0
  | b :: t => 2 * vL t + b.toNat
theorem vL_lt : ∀ l : List Bool, vL l < 2 ^ l.length
  | [] => by decide
  | b :: t => by
    have ih := vL_lt t
    have hb : b.toNat ≤ 1 := Bool.toNat_le b
    rw [vL, List.length_cons, Nat.pow_succ]
    omega
theorem vL_62 {l : List Bool} (h : l.length ≤ 61) : vL l < 2 ^ 61 := Nat.lt_of_lt_of_le (vL_lt l) (Nat.pow_le_pow_right (by decide) h)
abbrev rFactP (a : Int → Int) (k v p : Int) : Prop := (k = 14 ∧ a (631 + a (710 + p)) = 1) ∨ (k = 15 ∧ a (710 + p) = v) ∨ (k = 16 ∧ a (583 + a (710 + p)) = v) ∨ (k = 17 ∧ v < a (830 + p)) ∨ (k = 18 ∧ v ≤ a (890 + p)) ∨ (k = 19 ∧ a (770 + p) = v)
def tNot : List Bool → List Bool
  | b :: t => (!b) :: t
  | [] => []
def tAnd : List Bool → List Bool
  | x :: y :: t => (y && x) :: t
  | _ => []
def tOr : List Bool → List Bool
  | x :: y :: t => (y || x) :: t
  | _ => []
def stepL (a : Int → Int) (p i : Int) (l : List Bool) : List Bool :=
  if a (82 + 2 * i) = 13 then tNot l else if a (82 + 2 * i) = 12 then tAnd l else if a (82 + 2 * i) = 11 then tOr l else decide (rFactP a (a (82 + 2 * i)) (a (83 + 2 * i)) p) :: l
def runL (a : Int → Int) (p : Int) : Nat → Int → List Bool → List Bool
  | 0, _, l => l
  | f + 1, i, l => runL a p f (i + 1) (stepL a p i l)
def fitV (a : Int → Int) (look p : Int) : Bool := decide (a (1010 + p) = 0) && (runL a p (a (74 + look) - a (66 + look)).toNat (a (66 + look)) []).headD false
/-- the same but for what is held till when -/
def NH (M N : jM) : Prop := ∀ k j, (k < 84 ∨ 144 ≤ k ∨ j ≠ 7) → N k j = M k j
theorem NH.rf {M : jM} : NH M M := fun _ _ _ => rfl
/-- what a look's cells tell -/
theorem CR.lkc {M : jM} (h : CR M) : (0 ≤ M 12 1 ∧ M 12 1 ≤ 250) ∧ (∀ j, 0 ≤ j → j < M 929 65 → M 13 j = M 929 (66 + j) ∧ M 13 (j + 1) = M 929 (74 + j) ∧ M 929 (74 + j) ≤ M 12 1) ∧ ∀ i, 0 ≤ i → i < M 12 1 → M 14 i = opC (M 929 (82 + 2 * i)) ∧ M 15 i = M 929 (83 + 2 * i) := by
  have q := h.2.2.2.2.2.2.2.2.2.2.2.2
  obtain ⟨z1, z2, z3, z4, z5⟩ := q
  exact ⟨z3, z4, z5⟩
theorem CR.lkr {M : jM} (h : CR M) : RLook (M 929) := h.1.2.2.2.2.2.2.2.2.2.2
theorem c_isFact {i p k : Int} {M N : jM} {Q : Int → jM → Prop} (hC : CR M) (hN : NH M N) (hi : 0 ≤ i ∧ i < M 12 1) (hp0 : 0 ≤ p) (hp1 : p < M 929 709) (hk : k = M 929 (710 + p)) (hop : 14 ≤ M 929 (82 + 2 * i) ∧ M 929 (82 + 2 * i) ≤ 19) (h1 : rFactP (M 929) (M 929 (82 + 2 * i)) (M 929 (83 + 2 * i)) p → Q 1 N) (h0 : ¬ rFactP (M 929) (M 929 (82 + 2 * i)) (M 929 (83 + 2 * i)) p → Q 0 N) : jCt yX2_isFact cX2_isFact 5 (some .boolean) 1 [jR 12, jI i, jR (84 + p), jR (56 + k)] N Q := by
  refine jCt_of mt_yX2_isFact (Nat.le_of_ble_eq_true rfl) (fun X => ?_)
  have hn := hC.cnt
  have hg := hC.rng
  have hlk := hC.lkc
  have hl := hlk.2.2 i hi.1 hi.2
  have hp := hC.pl hp0 hp1
  have hpr := hC.plr hp0 hp1
  have hkk := hC.kind hpr.1.1 hpr.1.2
  have n1 : N 14 i = M 929 (82 + 2 * i) - 14 := by
    rw [hN _ _ (by omega), hl.1]
    unfold opC
    rw [if_neg (by omega), if_neg (by omega), if_neg (by omega)]
  have n2 : N 15 i = M 929 (83 + 2 * i) := by rw [hN _ _ (by omega), hl.2]
  have n3 : N (84 + p) 0 = M 929 (710 + p) := by rw [hN _ _ (by omega), hp.1.1]
  have n4 : N (84 + p) 1 = M 929 (770 + p) := by rw [hN _ _ (by omega), hp.1.2.1]
  have n5 : N (84 + p) 2 = M 929 (830 + p) := by rw [hN _ _ (by omega), hp.1.2.2.1]
  have n6 : N (84 + p) 3 = M 929 (890 + p) := by rw [hN _ _ (by omega), hp.1.2.2.2.1]
  have n7 : N (56 + k) 0 = M 929 (583 + M 929 (710 + p)) := by rw [hk, hN _ _ (by omega), hkk.1.1]
  have n8 : N (56 + k) 4 = M 929 (631 + M 929 (710 + p)) := by rw [hk, hN _ _ (by omega), hkk.1.2.2.2.2]
  refine e_aload_n (i := 0) 1 dX2_isFact_0 rfl rfl rfl ?_
  refine e_getr (j := 4) 4 fl_2_18 dX2_isFact_1 at_12 rfl rfl tp_12_4 rfl ?_
  refine e_iload_n (i := 1) 5 dX2_isFact_4 rfl rfl rfl ?_
  refine e_iald 6 dX2_isFact_5 ar_15 (by omega) (by omega) rfl (fun r5 => ?_)
  refine e_istore (lsn := [(4, _), (0, _), (1, _), (2, _), (3, _)]) 8 dX2_isFact_6 (by decide) rfl rfl ?_
  refine e_aload_n (i := 0) 9 dX2_isFact_8 rfl rfl rfl ?_
  refine e_getr (j := 3) 12 fl_2_15 dX2_isFact_9 at_12 rfl rfl tp_12_3 rfl ?_
  refine e_iload_n (i := 1) 13 dX2_isFact_12 rfl rfl rfl ?_
  refine e_iald 14 dX2_isFact_13 ar_14 (by omega) (by omega) rfl (fun r13 => ?_)
  refine e_tsw 113 dX2_isFact_14 (by omega) (by decide) (fun c0 hc0 hz0 => ?_) (fun b14 => ?_)
  · have hcc : c0 = 0 ∨ c0 = 1 ∨ c0 = 2 ∨ c0 = 3 ∨ c0 = 4 := by omega
    rcases hcc with b14 | b14 | b14 | b14 | b14
    · subst b14
      refine ⟨_, 48, rfl, by decide, ?_⟩
      refine e_aload_n (i := 3) 49 dX2_isFact_48 rfl rfl rfl ?_
      refine e_geti (j := 4) 52 fl_2_40 dX2_isFact_49 (at_kind (by omega) (by omega)) (by decide) rfl rfl (fun r49 => ?_)
      refine e_zret dX2_isFact_52 (by omega) ?_
      rcases (by omega : N (56 + k) 4 = 0 ∨ N (56 + k) 4 = 1) with e | e
      · rw [e]
        exact h0 (by unfold rFactP; omega)
      · rw [e]
        exact h1 (by unfold rFactP; omega)
    · subst b14
      refine ⟨_, 53, rfl, by decide, ?_⟩
      refine e_aload_n (i := 2) 54 dX2_isFact_53 rfl rfl rfl ?_
      refine e_geti (j := 0) 57 fl_2_46 dX2_isFact_54 (at_pledge (by omega) (by omega)) (by decide) rfl rfl (fun r54 => ?_)
      refine e_iload 59 dX2_isFact_57 rfl rfl ?_
      refine e_icmp_ne 62 66 dX2_isFact_59 (by omega) (by omega) (by decide) rfl (fun b59 => ?_) (fun b59 => ?_)
      · skip
        refine e_iconst 67 dX2_isFact_66 rfl ?_
        refine e_zret dX2_isFact_67 (by decide) ?_
        first | exact h1 (by unfold rFactP; omega) | exact h0 (by unfold rFactP; omega) | (exfalso; omega)
      · skip
        refine e_iconst 63 dX2_isFact_62 rfl ?_
        refine e_goto 67 dX2_isFact_63 (by decide) ?_
        refine e_zret dX2_isFact_67 (by decide) ?_
        first | exact h1 (by unfold rFactP; omega) | exact h0 (by unfold rFactP; omega) | (exfalso; omega)
    · subst b14
      refine ⟨_, 68, rfl, by decide, ?_⟩
      refine e_aload_n (i := 3) 69 dX2_isFact_68 rfl rfl rfl ?_
      refine e_geti (j := 0) 72 fl_2_51 dX2_isFact_69 (at_kind (by omega) (by omega)) (by decide) rfl rfl (fun r69 => ?_)
      refine e_iload 74 dX2_isFact_72 rfl rfl ?_
      refine e_icmp_ne 77 81 dX2_isFact_74 (by omega) (by omega) (by decide) rfl (fun b74 => ?_) (fun b74 => ?_)
      · skip
        refine e_iconst 82 dX2_isFact_81 rfl ?_
        refine e_zret dX2_isFact_82 (by decide) ?_
        first | exact h1 (by unfold rFactP; omega) | exact h0 (by unfold rFactP; omega) | (exfalso; omega)
      · skip
        refine e_iconst 78 dX2_isFact_77 rfl ?_
        refine e_goto 82 dX2_isFact_78 (by decide) ?_
        refine e_zret dX2_isFact_82 (by decide) ?_
        first | exact h1 (by unfold rFactP; omega) | exact h0 (by unfold rFactP; omega) | (exfalso; omega)
    · subst b14
      refine ⟨_, 83, rfl, by decide, ?_⟩
      refine e_aload_n (i := 2) 84 dX2_isFact_83 rfl rfl rfl ?_
      refine e_geti (j := 2) 87 fl_2_52 dX2_isFact_84 (at_pledge (by omega) (by omega)) (by decide) rfl rfl (fun r84 => ?_)
      refine e_iload 89 dX2_isFact_87 rfl rfl ?_
      refine e_icmp_le 92 96 dX2_isFact_89 (by omega) (by omega) (by decide) rfl (fun b89 => ?_) (fun b89 => ?_)
      · skip
        refine e_iconst 97 dX2_isFact_96 rfl ?_
        refine e_zret dX2_isFact_97 (by decide) ?_
        first | exact h1 (by unfold rFactP; omega) | exact h0 (by unfold rFactP; omega) | (exfalso; omega)
      · skip
        refine e_iconst 93 dX2_isFact_92 rfl ?_
        refine e_goto 97 dX2_isFact_93 (by decide) ?_
        refine e_zret dX2_isFact_97 (by decide) ?_
        first | exact h1 (by unfold rFactP; omega) | exact h0 (by unfold rFactP; omega) | (exfalso; omega)
    · subst b14
      refine ⟨_, 98, rfl, by decide, ?_⟩
      refine e_aload_n (i := 2) 99 dX2_isFact_98 rfl rfl rfl ?_
      refine e_geti (j := 3) 102 fl_2_55 dX2_isFact_99 (at_pledge (by omega) (by omega)) (by decide) rfl rfl (fun r99 => ?_)
      refine e_iload 104 dX2_isFact_102 rfl rfl ?_
      refine e_icmp_lt 107 111 dX2_isFact_104 (by omega) (by omega) (by decide) rfl (fun b104 => ?_) (fun b104 => ?_)
      · skip
        refine e_iconst 112 dX2_isFact_111 rfl ?_
        refine e_zret dX2_isFact_112 (by decide) ?_
        first | exact h1 (by unfold rFactP; omega) | exact h0 (by unfold rFactP; omega) | (exfalso; omega)
      · skip
        refine e_iconst 108 dX2_isFact_107 rfl ?_
        refine e_goto 112 dX2_isFact_108 (by decide) ?_
        refine e_zret dX2_isFact_112 (by decide) ?_
        first | exact h1 (by unfold rFactP; omega) | exact h0 (by unfold rFactP; omega) | (exfalso; omega)
  · skip
    refine e_aload_n (i := 2) 114 dX2_isFact_113 rfl rfl rfl ?_
    refine e_geti (j := 1) 117 fl_2_58 dX2_isFact_114 (at_pledge (by omega) (by omega)) (by decide) rfl rfl (fun r114 => ?_)
    refine e_iload 119 dX2_isFact_117 rfl rfl ?_
    refine e_icmp_ne 122 126 dX2_isFact_119 (by omega) (by omega) (by decide) rfl (fun b119 => ?_) (fun b119 => ?_)
    · skip
      refine e_iconst 127 dX2_isFact_126 rfl ?_
      refine e_zret dX2_isFact_127 (by decide) ?_
      first | exact h1 (by unfold rFactP; omega) | exact h0 (by unfold rFactP; omega) | (exfalso; omega)
    · skip
      refine e_iconst 123 dX2_isFact_122 rfl ?_
      refine e_goto 127 dX2_isFact_123 (by decide) ?_
      refine e_zret dX2_isFact_127 (by decide) ?_
      first | exact h1 (by unfold rFactP; omega) | exact h0 (by unfold rFactP; omega) | (exfalso; omega)

/-- the same but for scratch and what is held till when -/
def NR (M N : jM) : Prop := ∀ k j, (k < 933 ∨ 946 ≤ k) → ¬ (k = 929 ∧ 1070 ≤ j ∧ j < 1130) → N k j = M k j
theorem m_fact {k v p : Int} {M N : jM} {Q : Int → jM → Prop} (hR : RInv (M 929)) (hN : NR M N) (hk : 14 ≤ k ∧ k ≤ 19) (hv : -2147483648 ≤ v ∧ v ≤ 2147483647) (hp0 : 0 ≤ p) (hp1 : p < M 929 709) (h1 : rFactP (M 929) k v p → Q 1 N) (h0 : ¬ rFactP (M 929) k v p → Q 0 N) : jCt yX12_fact cX12_fact 4 (some .boolean) 2 [jR 928, jI k, jI v, jI p] N Q := by
  refine jCt_of mt_yX12_fact (Nat.le_of_ble_eq_true rfl) (fun X => ?_)
  have hg := hR.1
  unfold RCnt at hg
  have hpr := hR.2.2.2.2.2.1 p hp0 hp1
  have hkk := hR.2.2.2.1 _ hpr.1.1 hpr.1.2
  have n3 : N 929 (710 + p) = M 929 (710 + p) := hN _ _ (by omega) (by omega)
  have n4 : N 929 (770 + p) = M 929 (770 + p) := hN _ _ (by omega) (by omega)
  have n5 : N 929 (830 + p) = M 929 (830 + p) := hN _ _ (by omega) (by omega)
  have n6 : N 929 (890 + p) = M 929 (890 + p) := hN _ _ (by omega) (by omega)
  have n7 : N 929 (583 + N 929 (710 + p)) = M 929 (583 + M 929 (710 + p)) := by rw [n3]; exact hN _ _ (by omega) (by omega)
  have n8 : N 929 (631 + N 929 (710 + p)) = M 929 (631 + M 929 (710 + p)) := by rw [n3]; exact hN _ _ (by omega) (by omega)
  refine e_iload_n (i := 1) 1 dX12_fact_0 rfl rfl rfl ?_
  refine e_tsw 140 dX12_fact_1 (by omega) (by decide) (fun c0 hc0 hz0 => ?_) (fun b1 => ?_)
  · have hcc : c0 = 14 ∨ c0 = 15 ∨ c0 = 16 ∨ c0 = 17 ∨ c0 = 18 := by omega
    rcases hcc with b1 | b1 | b1 | b1 | b1
    · subst b1
      refine ⟨_, 36, rfl, by decide, ?_⟩
      refine e_aload_n (i := 0) 37 dX12_fact_36 rfl rfl rfl ?_
      refine e_getr (j := 1) 40 fl_12_13 dX12_fact_37 at_928 rfl rfl tp_928_1 rfl ?_
      refine e_sipush 43 dX12_fact_40 (by decide) rfl ?_
      refine e_aload_n (i := 0) 44 dX12_fact_43 rfl rfl rfl ?_
      refine e_getr (j := 1) 47 fl_12_13 dX12_fact_44 at_928 rfl rfl tp_928_1 rfl ?_
      refine e_sipush 50 dX12_fact_47 (by decide) rfl ?_
      refine e_iload_n (i := 3) 51 dX12_fact_50 rfl rfl rfl ?_
      refine e_iadd 52 dX12_fact_51 rfl ?_
      refine e_iald 53 dX12_fact_52 ar_929 (by omega) (by omega) rfl (fun r52 => ?_)
      refine e_iadd 54 dX12_fact_53 rfl ?_
      refine e_iald 55 dX12_fact_54 ar_929 (by omega) (by omega) rfl (fun r54 => ?_)
      refine e_iconst 56 dX12_fact_55 rfl ?_
      refine e_icmp_ne 59 63 dX12_fact_56 (by omega) (by decide) (by decide) rfl (fun b56 => ?_) (fun b56 => ?_)
      · skip
        refine e_iconst 64 dX12_fact_63 rfl ?_
        refine e_zret dX12_fact_64 (by decide) ?_
        first | exact h1 (by unfold rFactP; omega) | exact h0 (by unfold rFactP; omega) | (exfalso; omega)
      · skip
        refine e_iconst 60 dX12_fact_59 rfl ?_
        refine e_goto 64 dX12_fact_60 (by decide) ?_
        refine e_zret dX12_fact_64 (by decide) ?_
        first | exact h1 (by unfold rFactP; omega) | exact h0 (by unfold rFactP; omega) | (exfalso; omega)
    · subst b1
      refine ⟨_, 65, rfl, by decide, ?_⟩
      refine e_aload_n (i := 0) 66 dX12_fact_65 rfl rfl rfl ?_
      refine e_getr (j := 1) 69 fl_12_13 dX12_fact_66 at_928 rfl rfl tp_928_1 rfl ?_
      refine e_sipush 72 dX12_fact_69 (by decide) rfl ?_
      refine e_iload_n (i := 3) 73 dX12_fact_72 rfl rfl rfl ?_
      refine e_iadd 74 dX12_fact_73 rfl ?_
      refine e_iald 75 dX12_fact_74 ar_929 (by omega) (by omega) rfl (fun r74 => ?_)
      refine e_iload_n (i := 2) 76 dX12_fact_75 rfl rfl rfl ?_
      refine e_icmp_ne 79 83 dX12_fact_76 (by omega) (by omega) (by decide) rfl (fun b76 => ?_) (fun b76 => ?_)
      · skip
        refine e_iconst 84 dX12_fact_83 rfl ?_
        refine e_zret dX12_fact_84 (by decide) ?_
        first | exact h1 (by unfold rFactP; omega) | exact h0 (by unfold rFactP; omega) | (exfalso; omega)
      · skip
        refine e_iconst 80 dX12_fact_79 rfl ?_
        refine e_goto 84 dX12_fact_80 (by decide) ?_
        refine e_zret dX12_fact_84 (by decide) ?_
        first | exact h1 (by unfold rFactP; omega) | exact h0 (by unfold rFactP; omega) | (exfalso; omega)
    · subst b1
      refine ⟨_, 85, rfl, by decide, ?_⟩
      refine e_aload_n (i := 0) 86 dX12_fact_85 rfl rfl rfl ?_
      refine e_iload_n (i := 3) 87 dX12_fact_86 rfl rfl rfl ?_
      refine e_callV 90 mt_yX12_sizeOf mv_yX12_sizeOf wd_1649 (by decide) dX12_fact_87 at_928 jc_12 rfl rfl rfl (Nat.le_of_ble_eq_true rfl) (jroom (by decide)) rfl (m_sizeOf (by omega) (by omega) ?_)
      dsimp only [jpush]
      refine e_iload_n (i := 2) 91 dX12_fact_90 rfl rfl rfl ?_
      refine e_icmp_ne 94 98 dX12_fact_91 (by omega) (by omega) (by decide) rfl (fun b91 => ?_) (fun b91 => ?_)
      · skip
        refine e_iconst 99 dX12_fact_98 rfl ?_
        refine e_zret dX12_fact_99 (by decide) ?_
        first | exact h1 (by unfold rFactP; omega) | exact h0 (by unfold rFactP; omega) | (exfalso; omega)
      · skip
        refine e_iconst 95 dX12_fact_94 rfl ?_
        refine e_goto 99 dX12_fact_95 (by decide) ?_
        refine e_zret dX12_fact_99 (by decide) ?_
        first | exact h1 (by unfold rFactP; omega) | exact h0 (by unfold rFactP; omega) | (exfalso; omega)
    · subst b1
      refine ⟨_, 100, rfl, by decide, ?_⟩
      refine e_aload_n (i := 0) 101 dX12_fact_100 rfl rfl rfl ?_
      refine e_getr (j := 1) 104 fl_12_13 dX12_fact_101 at_928 rfl rfl tp_928_1 rfl ?_
      refine e_sipush 107 dX12_fact_104 (by decide) rfl ?_
      refine e_iload_n (i := 3) 108 dX12_fact_107 rfl rfl rfl ?_
      refine e_iadd 109 dX12_fact_108 rfl ?_
      refine e_iald 110 dX12_fact_109 ar_929 (by omega) (by omega) rfl (fun r109 => ?_)
      refine e_iload_n (i := 2) 111 dX12_fact_110 rfl rfl rfl ?_
      refine e_icmp_le 114 118 dX12_fact_111 (by omega) (by omega) (by decide) rfl (fun b111 => ?_) (fun b111 => ?_)
      · skip
        refine e_iconst 119 dX12_fact_118 rfl ?_
        refine e_zret dX12_fact_119 (by decide) ?_
        first | exact h1 (by unfold rFactP; omega) | exact h0 (by unfold rFactP; omega) | (exfalso; omega)
      · skip
        refine e_iconst 115 dX12_fact_114 rfl ?_
        refine e_goto 119 dX12_fact_115 (by decide) ?_
        refine e_zret dX12_fact_119 (by decide) ?_
        first | exact h1 (by unfold rFactP; omega) | exact h0 (by unfold rFactP; omega) | (exfalso; omega)
    · subst b1
      refine ⟨_, 120, rfl, by decide, ?_⟩
      refine e_aload_n (i := 0) 121 dX12_fact_120 rfl rfl rfl ?_
      refine e_getr (j := 1) 124 fl_12_13 dX12_fact_121 at_928 rfl rfl tp_928_1 rfl ?_
      refine e_sipush 127 dX12_fact_124 (by decide) rfl ?_
      refine e_iload_n (i := 3) 128 dX12_fact_127 rfl rfl rfl ?_
      refine e_iadd 129 dX12_fact_128 rfl ?_
      refine e_iald 130 dX12_fact_129 ar_929 (by omega) (by omega) rfl (fun r129 => ?_)
      refine e_iload_n (i := 2) 131 dX12_fact_130 rfl rfl rfl ?_
      refine e_icmp_lt 134 138 dX12_fact_131 (by omega) (by omega) (by decide) rfl (fun b131 => ?_) (fun b131 => ?_)
      · skip
        refine e_iconst 139 dX12_fact_138 rfl ?_
        refine e_zret dX12_fact_139 (by decide) ?_
        first | exact h1 (by unfold rFactP; omega) | exact h0 (by unfold rFactP; omega) | (exfalso; omega)
      · skip
        refine e_iconst 135 dX12_fact_134 rfl ?_
        refine e_goto 139 dX12_fact_135 (by decide) ?_
        refine e_zret dX12_fact_139 (by decide) ?_
        first | exact h1 (by unfold rFactP; omega) | exact h0 (by unfold rFactP; omega) | (exfalso; omega)
  · skip
    refine e_aload_n (i := 0) 141 dX12_fact_140 rfl rfl rfl ?_
    refine e_getr (j := 1) 144 fl_12_13 dX12_fact_141 at_928 rfl rfl tp_928_1 rfl ?_
    refine e_sipush 147 dX12_fact_144 (by decide) rfl ?_
    refine e_iload_n (i := 3) 148 dX12_fact_147 rfl rfl rfl ?_
    refine e_iadd 149 dX12_fact_148 rfl ?_
    refine e_iald 150 dX12_fact_149 ar_929 (by omega) (by omega) rfl (fun r149 => ?_)
    refine e_iload_n (i := 2) 151 dX12_fact_150 rfl rfl rfl ?_
    refine e_icmp_ne 154 158 dX12_fact_151 (by omega) (by omega) (by decide) rfl (fun b151 => ?_) (fun b151 => ?_)
    · skip
      refine e_iconst 159 dX12_fact_158 rfl ?_
      refine e_zret dX12_fact_159 (by decide) ?_
      first | exact h1 (by unfold rFactP; omega) | exact h0 (by unfold rFactP; omega) | (exfalso; omega)
    · skip
      refine e_iconst 155 dX12_fact_154 rfl ?_
      refine e_goto 159 dX12_fact_155 (by decide) ?_
      refine e_zret dX12_fact_159 (by decide) ?_
      first | exact h1 (by unfold rFactP; omega) | exact h0 (by unfold rFactP; omega) | (exfalso; omega)

