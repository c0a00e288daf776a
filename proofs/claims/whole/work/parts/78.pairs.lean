/-! TRIPS *** the class: sums of sets *** -/
section
variable {X : jX} {y : MethodName} {cc : ByteArray} {mL : Nat} {ret : Option FieldType} {R : Room} {QF : jQF} {cells slots n : Nat} {N : jN} {M : jM} {pc : Nat} {ls : List (Nat × jV)} {st : List jV}
theorem e_tlen (q : Nat) {i : Nat} {z : Int} (hi : i < 6) (hz0 : ((jzt i).length : Int) = z) (hdg : decode cc pc = .ok (.arraylength, 1)) (hq : pc + 1 = q) (kk : gE X y cc mL ret R QF cells slots n N M q ls (jI z :: st)) : gE X y cc mL ret R QF cells slots n N M pc ls (jF i :: st) := by
  subst hq
  subst hz0
  intro p l e s m args below meth c H locs lsA C hz hR hS hl
  have hF := C.2.2.2.2.2.2.2.2.2.2
  obtain ⟨cell, f1, f2, f3, f4, f5, f6, f7⟩ := (hF.1 i hi).2.kept (H1 := H) (fun a h1 h2 => hS.2.1 a h1 h2)
  have hb : (jzt i).length < 8 := by
    have : i = 0 ∨ i = 1 ∨ i = 2 ∨ i = 3 ∨ i = 4 ∨ i = 5 := by omega
    rcases this with h | h | h | h | h | h <;> subst h <;> decide
  refine W.alen C.1 C.2.1 f1 f2 (n := Int32.ofInt ((jzt i).length : Int)) ?_ rfl rfl hdg (kk p l e s m args below meth c H locs lsA C hz hR hS hl)
  first
    | rw [f4]
    | rw [f5]
  apply Int32.toInt_inj.mp
  rw [to_of32, w32_id (by omega)]
  exact nI_toInt (by omega)
end
def sumS (f : Int → Int) : Nat → Nat → Int
  | 0, _ => 0
  | j + 1, S => if S.testBit j then sumS f j S + f j else sumS f j S
def mostS (f : Int → Int) : Nat → Nat → Int
  | 0, _ => 0
  | j + 1, S => if S.testBit j then max (mostS f j S) (f j) else mostS f j S
def FIG (j : Int) : Int := if j < 7 then (jzt 5).getD j.toNat 0 else 0
theorem sumS_cong {f : Int → Int} : ∀ (j : Nat) {S U : Nat}, (∀ i, i < j → S.testBit i = U.testBit i) → sumS f j S = sumS f j U
  | 0, _, _, _ => rfl
  | j + 1, S, U, h => by rw [sumS, sumS, h j (by omega), sumS_cong j (fun i hi => h i (by omega))]
theorem mostS_cong {f : Int → Int} : ∀ (j : Nat) {S U : Nat}, (∀ i, i < j → S.testBit i = U.testBit i) → mostS f j S = mostS f j U
  | 0, _, _, _ => rfl
  | j + 1, S, U, h => by rw [mostS, mostS, h j (by omega), mostS_cong j (fun i hi => h i (by omega))]
theorem sumS_rng {f : Int → Int} : ∀ (j S : Nat), (∀ i : Int, 0 ≤ i → i < j → 0 ≤ f i ∧ f i ≤ 200000000) → 0 ≤ sumS f j S ∧ sumS f j S ≤ 200000000 * j
  | 0, _, _ => by
    rw [sumS]
    omega
  | j + 1, S, h => by
    have ih := sumS_rng j S (fun i a b => h i a (by omega))
    have q := h j (by omega) (by omega)
    rw [sumS]
    split <;> omega
theorem mostS_rng {f : Int → Int} : ∀ (j S : Nat), (∀ i : Int, 0 ≤ i → i < j → 0 ≤ f i ∧ f i ≤ 200000000) → 0 ≤ mostS f j S ∧ mostS f j S ≤ 200000000
  | 0, _, _ => by
    rw [mostS]
    omega
  | j + 1, S, h => by
    have ih := mostS_rng j S (fun i a b => h i a (by omega))
    have q := h j (by omega) (by omega)
    rw [mostS]
    split <;> omega
theorem low_tb {j S : Nat} (h : S < 2 ^ j) : S.testBit j = false := Nat.testBit_lt_two_pow h
theorem top_tb {j s : Nat} (h : s < 2 ^ j) : (2 ^ j + s).testBit j = true := by
  rw [Nat.testBit_two_pow_add_eq, low_tb h]
  rfl
theorem top_lo {j s i : Nat} (h : i < j) : (2 ^ j + s).testBit i = s.testBit i := Nat.testBit_two_pow_add_gt h s
theorem sumS_lo {f : Int → Int} {j S : Nat} (h : S < 2 ^ j) : sumS f (j + 1) S = sumS f j S := by
  rw [sumS, if_neg (by rw [low_tb h]; decide)]
theorem sumS_hi {f : Int → Int} {j s : Nat} (h : s < 2 ^ j) : sumS f (j + 1) (2 ^ j + s) = sumS f j s + f j := by
  rw [sumS, if_pos (top_tb h), sumS_cong j (fun i hi => top_lo hi)]
theorem mostS_lo {f : Int → Int} {j S : Nat} (h : S < 2 ^ j) : mostS f (j + 1) S = mostS f j S := by
  rw [mostS, if_neg (by rw [low_tb h]; decide)]
theorem mostS_hi {f : Int → Int} {j s : Nat} (h : s < 2 ^ j) : mostS f (j + 1) (2 ^ j + s) = max (mostS f j s) (f j) := by
  rw [mostS, if_pos (top_tb h), mostS_cong j (fun i hi => top_lo hi)]
def SetOk (Y Z : jM) (n N : Nat) : Prop := ∀ S : Nat, S < N → Z 906 S = sumS (Y 904) n S ∧ Z 907 S = sumS (Y 905) n S ∧ Z 908 S = sumS FIG n S ∧ Z 909 S = mostS (Y 905) n S
def Oth (Y Z : jM) : Prop := ∀ k, k < 906 ∨ 909 < k → Z k = Y k
theorem Oth.set {Y Z : jM} (h : Oth Y Z) {k i v : Int} (e : 906 ≤ k ∧ k ≤ 909) : Oth Y (jset Z k i v) := fun q hq => by
  rw [show jset Z k i v q = Z q from funext fun p => jset_k (by omega)]
  exact h q hq
theorem SetOk.put {Y Z : jM} {n N : Nat} {ii a b c d : Int} (h : SetOk Y Z n N) (hi : ii = N) (ha : a = sumS (Y 904) n N) (hb : b = sumS (Y 905) n N) (hc : c = sumS FIG n N) (hd : d = mostS (Y 905) n N) : SetOk Y (jset (jset (jset (jset Z 906 ii a) 907 ii b) 908 ii c) 909 ii d) n (N + 1) := fun S hS => by
  by_cases e : S = N
  · subst e
    subst hi
    simp (disch := omega) only [jset_k, jset_same]
    exact ⟨ha, hb, hc, hd⟩
  · have q := h S (by omega)
    simp (disch := omega) only [jset_k, jset_j]
    exact q
theorem FIG_rng : ∀ i : Fin 8, 0 ≤ FIG (i.val : Int) ∧ FIG (i.val : Int) ≤ 1000000 := by decide +kernel
theorem l_sumS2 {X : jX} {Y : jM} {Q : Int → jM → Prop} {n j P : Nat} {nn jj : Int} (hnn : nn = n) (hjj : jj = j) (hj : j < n) (hn8 : n ≤ 8) (hP : 2 ^ j = P) (hPl : 1 ≤ P ∧ P ≤ 128) (hit : ∀ i : Int, 0 ≤ i → i < n → (0 ≤ Y 904 i ∧ Y 904 i ≤ 200000000) ∧ 0 ≤ Y 905 i ∧ Y 905 i ≤ 200000000) {fg : Int} (hfg : fg = FIG j) (hq : ∀ Z : jM, Oth Y Z → SetOk Y Z (j + 1) (2 ^ (j + 1)) → jE X yX4_sumSets cX4_sumSets 6 none 1 Q Z 165 [(0, jR 903), (1, jI nn), (2, jI jj), (3, jI P), (4, jI fg), (5, jI (2 * P : Nat))] []) : ∀ k s : Nat, s + k = P → ∀ Z : jM, Oth Y Z → SetOk Y Z (j + 1) (P + s) → ∀ ii : Int, ii = (P + s : Nat) → jE X yX4_sumSets cX4_sumSets 6 none 1 Q Z 61 [(0, jR 903), (1, jI nn), (2, jI jj), (3, jI P), (4, jI fg), (5, jI ii)] [] := by
  intro k
  induction k with
  | zero =>
    intro s hs Z hO hZ ii hii
    have hP2 : 2 ^ (j + 1) = 2 * P := by rw [Nat.pow_succ, hP]; omega
    have e : P + s = 2 * P := by omega
    rw [e] at hZ hii
    rw [← hP2] at hZ
    rw [hii]
    refine e_iload 63 dX4_sumSets_61 rfl rfl ?_
    refine e_iconst 64 dX4_sumSets_63 rfl ?_
    refine e_iload_n (i := 3) 65 dX4_sumSets_64 rfl rfl rfl ?_
    refine e_imul 66 dX4_sumSets_65 rfl ?_
    refine e_icmp_ge 69 165 dX4_sumSets_66 (by omega) (by omega) (by decide) rfl (fun b66 => ?_) (fun b66 => ?_)
    · skip
      exact hq Z hO hZ
    · omega
  | succ k ih =>
    intro s hs Z hO hZ ii hii
    have hP2 : 2 ^ (j + 1) = 2 * P := by rw [Nat.pow_succ, hP]; omega
    have r1 := sumS_rng (f := Z 904) j s (fun i a b => (by rw [hO 904 (by omega)]; exact (hit i a (by omega)).1))
    have hOa : ∀ i : Int, Z 904 i = Y 904 i := fun i => by rw [hO 904 (by omega)]
    have hOb : ∀ i : Int, Z 905 i = Y 905 i := fun i => by rw [hO 905 (by omega)]
    rw [show Z 904 = Y 904 from hO 904 (by omega)] at r1
    have r2 := sumS_rng (f := Y 905) j s (fun i a b => (hit i a (by omega)).2)
    have r3 := sumS_rng (f := FIG) j s (fun i a b => by
      have q := FIG_rng ⟨i.toNat, by omega⟩
      rw [show ((i.toNat : Nat) : Int) = i by omega] at q
      omega)
    have r4 := mostS_rng (f := Y 905) j s (fun i a b => (hit i a (by omega)).2)
    have z := hZ s (by omega)
    have e0 : ii - (P : Int) = (s : Int) := by omega
    have es : s < 2 ^ j := by omega
    rw [sumS_lo es, sumS_lo es, sumS_lo es, mostS_lo es, ← e0] at z
    have a1 := sumS_hi (f := Y 904) es
    have a2 := sumS_hi (f := Y 905) es
    have a3 := sumS_hi (f := FIG) es
    have a4 := mostS_hi (f := Y 905) es
    rw [hP] at a1 a2 a3 a4
    have it := hit j (by omega) (by omega)
    have fr := FIG_rng ⟨j, by omega⟩
    have b1 := hOa j
    have b2 := hOb j
    rw [← hjj] at b1 b2
    rw [← hjj] at it
    rw [← hjj] at a1 a2
    rw [← hjj] at a4
    have hFj : FIG (((⟨j, by omega⟩ : Fin 8).val : Nat) : Int) = FIG j := rfl
    rw [hFj] at fr
    refine e_iload 63 dX4_sumSets_61 rfl rfl ?_
    refine e_iconst 64 dX4_sumSets_63 rfl ?_
    refine e_iload_n (i := 3) 65 dX4_sumSets_64 rfl rfl rfl ?_
    refine e_imul 66 dX4_sumSets_65 rfl ?_
    refine e_icmp_ge 69 165 dX4_sumSets_66 (by omega) (by omega) (by decide) rfl (fun b66 => ?_) (fun b66 => ?_)
    · omega
    · skip
      refine e_aload_n (i := 0) 70 dX4_sumSets_69 rfl rfl rfl ?_
      refine e_getr (j := 3) 73 fl_4_18 dX4_sumSets_70 at_903 rfl rfl tp_903_3 rfl ?_
      refine e_iload 75 dX4_sumSets_73 rfl rfl ?_
      refine e_aload_n (i := 0) 76 dX4_sumSets_75 rfl rfl rfl ?_
      refine e_getr (j := 3) 79 fl_4_18 dX4_sumSets_76 at_903 rfl rfl tp_903_3 rfl ?_
      refine e_iload 81 dX4_sumSets_79 rfl rfl ?_
      refine e_iload_n (i := 3) 82 dX4_sumSets_81 rfl rfl rfl ?_
      refine e_isub 83 dX4_sumSets_82 rfl ?_
      refine e_iald 84 dX4_sumSets_83 ar_906 (by omega) (by omega) rfl (fun r83 => ?_)
      refine e_aload_n (i := 0) 85 dX4_sumSets_84 rfl rfl rfl ?_
      refine e_getr (j := 1) 88 fl_4_11 dX4_sumSets_85 at_903 rfl rfl tp_903_1 rfl ?_
      refine e_iload_n (i := 2) 89 dX4_sumSets_88 rfl rfl rfl ?_
      refine e_iald 90 dX4_sumSets_89 ar_904 (by omega) (by omega) rfl (fun r89 => ?_)
      refine e_iadd 91 dX4_sumSets_90 rfl ?_
      refine e_iast 92 dX4_sumSets_91 ar_906 (by omega) (by omega) (by omega) rfl ?_
      refine e_aload_n (i := 0) 93 dX4_sumSets_92 rfl rfl rfl ?_
      refine e_getr (j := 4) 96 fl_4_21 dX4_sumSets_93 at_903 rfl rfl tp_903_4 rfl ?_
      refine e_iload 98 dX4_sumSets_96 rfl rfl ?_
      refine e_aload_n (i := 0) 99 dX4_sumSets_98 rfl rfl rfl ?_
      refine e_getr (j := 4) 102 fl_4_21 dX4_sumSets_99 at_903 rfl rfl tp_903_4 rfl ?_
      refine e_iload 104 dX4_sumSets_102 rfl rfl ?_
      refine e_iload_n (i := 3) 105 dX4_sumSets_104 rfl rfl rfl ?_
      refine e_isub 106 dX4_sumSets_105 rfl ?_
      refine e_iald 107 dX4_sumSets_106 ar_907 (by omega) (by omega) rfl (fun r106 => ?_)
      simp (disch := omega) only [jset_k, jset_j, jset_same, true_and, and_true] at r106 ⊢
      refine e_aload_n (i := 0) 108 dX4_sumSets_107 rfl rfl rfl ?_
      refine e_getr (j := 2) 111 fl_4_15 dX4_sumSets_108 at_903 rfl rfl tp_903_2 rfl ?_
      refine e_iload_n (i := 2) 112 dX4_sumSets_111 rfl rfl rfl ?_
      refine e_iald 113 dX4_sumSets_112 ar_905 (by omega) (by omega) rfl (fun r112 => ?_)
      simp (disch := omega) only [jset_k, jset_j, jset_same, true_and, and_true] at r112 ⊢
      refine e_iadd 114 dX4_sumSets_113 rfl ?_
      refine e_iast 115 dX4_sumSets_114 ar_907 (by omega) (by omega) (by omega) rfl ?_
      refine e_aload_n (i := 0) 116 dX4_sumSets_115 rfl rfl rfl ?_
      refine e_getr (j := 5) 119 fl_4_24 dX4_sumSets_116 at_903 rfl rfl tp_903_5 rfl ?_
      refine e_iload 121 dX4_sumSets_119 rfl rfl ?_
      refine e_aload_n (i := 0) 122 dX4_sumSets_121 rfl rfl rfl ?_
      refine e_getr (j := 5) 125 fl_4_24 dX4_sumSets_122 at_903 rfl rfl tp_903_5 rfl ?_
      refine e_iload 127 dX4_sumSets_125 rfl rfl ?_
      refine e_iload_n (i := 3) 128 dX4_sumSets_127 rfl rfl rfl ?_
      refine e_isub 129 dX4_sumSets_128 rfl ?_
      refine e_iald 130 dX4_sumSets_129 ar_908 (by omega) (by omega) rfl (fun r129 => ?_)
      simp (disch := omega) only [jset_k, jset_j, jset_same, true_and, and_true] at r129 ⊢
      refine e_iload 132 dX4_sumSets_130 rfl rfl ?_
      refine e_iadd 133 dX4_sumSets_132 rfl ?_
      refine e_iast 134 dX4_sumSets_133 ar_908 (by omega) (by omega) (by omega) rfl ?_
      refine e_aload_n (i := 0) 135 dX4_sumSets_134 rfl rfl rfl ?_
      refine e_getr (j := 6) 138 fl_4_27 dX4_sumSets_135 at_903 rfl rfl tp_903_6 rfl ?_
      refine e_iload 140 dX4_sumSets_138 rfl rfl ?_
      refine e_aload_n (i := 0) 141 dX4_sumSets_140 rfl rfl rfl ?_
      refine e_getr (j := 6) 144 fl_4_27 dX4_sumSets_141 at_903 rfl rfl tp_903_6 rfl ?_
      refine e_iload 146 dX4_sumSets_144 rfl rfl ?_
      refine e_iload_n (i := 3) 147 dX4_sumSets_146 rfl rfl rfl ?_
      refine e_isub 148 dX4_sumSets_147 rfl ?_
      refine e_iald 149 dX4_sumSets_148 ar_909 (by omega) (by omega) rfl (fun r148 => ?_)
      simp (disch := omega) only [jset_k, jset_j, jset_same, true_and, and_true] at r148 ⊢
      refine e_aload_n (i := 0) 150 dX4_sumSets_149 rfl rfl rfl ?_
      refine e_getr (j := 2) 153 fl_4_15 dX4_sumSets_150 at_903 rfl rfl tp_903_2 rfl ?_
      refine e_iload_n (i := 2) 154 dX4_sumSets_153 rfl rfl rfl ?_
      refine e_iald 155 dX4_sumSets_154 ar_905 (by omega) (by omega) rfl (fun r154 => ?_)
      simp (disch := omega) only [jset_k, jset_j, jset_same, true_and, and_true] at r154 ⊢
      refine e_maxI 158 wd_999 dX4_sumSets_155 (by omega) (by omega) (Nat.le_of_ble_eq_true rfl) (jroom (by decide)) rfl ?_
      refine e_iast 159 dX4_sumSets_158 ar_909 (by omega) (by omega) (by omega) rfl ?_
      refine e_iinc (lsn := [(5, _), (0, _), (1, _), (2, _), (3, _), (4, _)]) 162 dX4_sumSets_159 rfl (by decide) rfl rfl ?_
      refine e_goto 61 dX4_sumSets_162 (by decide) ?_
      refine e_ls (ls2 := [(0, _), (1, _), (2, _), (3, _), (4, _), (5, _)]) rfl ?_
      refine ih (s + 1) (by omega) _ ((((hO.set (by omega)).set (by omega)).set (by omega)).set (by omega)) ?_ _ (by omega)
      exact hZ.put hii (by omega) (by omega) (by omega) (by omega)

