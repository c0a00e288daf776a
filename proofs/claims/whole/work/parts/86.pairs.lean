/-! BEST *** the class: one rack more *** -/
def PartG (W : Nat → Int → Prop) (no : Int) (P : Nat → Prop) (v : Int) : Prop := (v = no ∧ ∀ q c, P q → ¬ W q c) ∨ (v ≠ no ∧ (∃ q, P q ∧ W q v) ∧ ∀ q c, P q → W q c → v ≤ c)
section
variable {W : Nat → Int → Prop} {no v w : Int} {P R : Nat → Prop}
theorem PartG.cong (h : PartG W no P v) (e : ∀ q, P q ↔ R q) : PartG W no R v := by
  rw [show R = P from funext fun q => propext (e q).symm]
  exact h
theorem PartG.skip {q : Nat} (h : PartG W no P v) (hq : ∀ c, ¬ W q c) (e : ∀ r, R r ↔ P r ∨ r = q) : PartG W no R v := by
  rcases h with ⟨a, b⟩ | ⟨a, ⟨r, b, c⟩, d⟩
  · refine Or.inl ⟨a, fun r c hr => ?_⟩
    rcases (e r).mp hr with z | z
    · exact b r c z
    · rw [z]
      exact hq c
  · refine Or.inr ⟨a, ⟨r, (e r).mpr (Or.inl b), c⟩, fun s u hs hw => ?_⟩
    rcases (e s).mp hs with z | z
    · exact d s u z hw
    · rw [z] at hw
      exact absurd hw (hq u)
theorem PartG.put {q : Nat} {u : Int} (h : PartG W no P v) (hq : W q u) (hl : ∀ c, W q c → u ≤ c) (hu : u ≠ no) (h1 : v = no → w = u) (h2 : v ≠ no → w ≤ v ∧ w ≤ u ∧ (w = v ∨ w = u)) (e : ∀ r, R r ↔ P r ∨ r = q) : PartG W no R w := by
  rcases h with ⟨a, b⟩ | ⟨a, ⟨r, b, c⟩, d⟩
  · have hw := h1 a
    subst hw
    refine Or.inr ⟨hu, ⟨q, (e q).mpr (Or.inr rfl), hq⟩, fun s z hs hz => ?_⟩
    rcases (e s).mp hs with y | y
    · exact absurd hz (b s z y)
    · rw [y] at hz
      exact hl z hz
  · have hw := h2 a
    refine Or.inr ⟨by rcases hw.2.2 with z | z <;> omega, ?_, fun s z hs hz => ?_⟩
    · rcases hw.2.2 with z | z
      · exact ⟨r, (e r).mpr (Or.inl b), by rw [z]; exact c⟩
      · exact ⟨q, (e q).mpr (Or.inr rfl), by rw [z]; exact hq⟩
    · rcases (e s).mp hs with y | y
      · have := d s z y hz
        omega
      · rw [y] at hz
        have := hl z hz
        omega
end
/-- c is a cost of set S on the first racks -/
def AchB (SZ WT FG : Nat → Int) (room steps : Int → Int) : Nat → Nat → Int → Prop
  | 0, S, c => S = 0 ∧ c = 0
  | r + 1, S, c => ∃ q : Nat, q &&& S = q ∧ (q = 0 ∨ SZ q ≤ room r) ∧ ∃ d, AchB SZ WT FG room steps r (S ^^^ q) d ∧ c = d + 10000000 * WT q * steps r + (r : Int) * FG q
abbrev NOP : Int := 4611686018427387904
section
variable {SZ WT FG : Nat → Int} {room steps : Int → Int}
def WayB (SZ WT FG : Nat → Int) (room steps : Int → Int) (r S q : Nat) (c : Int) : Prop := (q = 0 ∨ SZ q ≤ room r) ∧ ∃ d, AchB SZ WT FG room steps r (S ^^^ q) d ∧ c = d + 10000000 * WT q * steps r + (r : Int) * FG q
def LB (SZ WT FG : Nat → Int) (room steps : Int → Int) (r S : Nat) (v : Int) : Prop := ((v = 4611686018427387904 ∧ ∀ c, ¬ AchB SZ WT FG room steps r S c) ∨ (v ≠ 4611686018427387904 ∧ AchB SZ WT FG room steps r S v ∧ ∀ c, AchB SZ WT FG room steps r S c → v ≤ c)) ∧ (v = 4611686018427387904 ∨ (0 ≤ v ∧ v ≤ 1000000000000 * (r : Int)))
theorem LB.start {r S : Nat} {v : Int} (h : LB SZ WT FG room steps r S v) (hW : WT 0 = 0) (hF : FG 0 = 0) : PartG (WayB SZ WT FG room steps r S) 4611686018427387904 (fun q => q = 0) v := by
  have e : ∀ c, WayB SZ WT FG room steps r S 0 c ↔ AchB SZ WT FG room steps r S c := fun c => by
    unfold WayB
    rw [Nat.xor_zero, hW, hF]
    refine ⟨fun ⟨_, d, a, b⟩ => ?_, fun a => ⟨Or.inl rfl, c, a, by omega⟩⟩
    rw [show c = d by omega]
    exact a
  rcases h.1 with ⟨a, b⟩ | ⟨a, b, c⟩
  · refine Or.inl ⟨a, fun q d hq hw => ?_⟩
    rw [hq, e] at hw
    exact b d hw
  · refine Or.inr ⟨a, ⟨0, rfl, (e v).mpr b⟩, fun q d hq hw => ?_⟩
    rw [hq, e] at hw
    exact c d hw
theorem LB.done {r S : Nat} {v : Int} (h : PartG (WayB SZ WT FG room steps r S) 4611686018427387904 (fun q => q &&& S = q) v) (hb : v = 4611686018427387904 ∨ (0 ≤ v ∧ v ≤ 1000000000000 * ((r : Int) + 1))) : LB SZ WT FG room steps (r + 1) S v := by
  refine ⟨?_, by omega⟩
  rcases h with ⟨a, b⟩ | ⟨a, ⟨q, b, c⟩, d⟩
  · refine Or.inl ⟨a, fun c hc => ?_⟩
    obtain ⟨q, x, y, z⟩ := hc
    exact b q c x ⟨y, z⟩
  · refine Or.inr ⟨a, ⟨q, b, c.1, c.2⟩, fun e he => ?_⟩
    obtain ⟨s, x, y, z⟩ := he
    exact d s e x ⟨y, z⟩
theorem wayB_no1 {r S q : Nat} (h0 : q ≠ 0) (h : room r < SZ q) (c : Int) : ¬ WayB SZ WT FG room steps r S q c := fun z => by
  rcases z.1 with y | y
  · exact h0 y
  · omega
theorem wayB_no2 {r S q : Nat} (h : LB SZ WT FG room steps r (S ^^^ q) 4611686018427387904) (c : Int) : ¬ WayB SZ WT FG room steps r S q c := fun ⟨_, d, a, _⟩ => by
  rcases h.1 with ⟨_, b⟩ | ⟨b, _⟩
  · exact b d a
  · exact b rfl
theorem wayB_yes {r S q : Nat} {u : Int} (hs : SZ q ≤ room r) (h : LB SZ WT FG room steps r (S ^^^ q) u) (hn : u ≠ 4611686018427387904) : WayB SZ WT FG room steps r S q (u + 10000000 * WT q * steps r + (r : Int) * FG q) ∧ ∀ c, WayB SZ WT FG room steps r S q c → u + 10000000 * WT q * steps r + (r : Int) * FG q ≤ c := by
  rcases h.1 with ⟨a, _⟩ | ⟨_, b, c⟩
  · exact absurd a hn
  · refine ⟨⟨Or.inr hs, u, b, rfl⟩, fun z ⟨_, d, x, e⟩ => ?_⟩
    have := c d x
    omega
theorem LB.zero {r : Nat} (hW : WT 0 = 0) (hF : FG 0 = 0) : ∀ c, AchB SZ WT FG room steps r 0 c ↔ c = 0 := by
  induction r with
  | zero => exact fun c => ⟨fun h => h.2, fun h => ⟨rfl, h⟩⟩
  | succ r ih =>
    intro c
    refine ⟨fun ⟨q, a, _, d, e, f⟩ => ?_, fun h => ⟨0, by simp, Or.inl rfl, 0, by rw [Nat.xor_zero]; exact (ih 0).mpr rfl, by rw [hW, hF]; omega⟩⟩
    rw [Nat.and_zero] at a
    subst a
    rw [Nat.xor_zero] at e
    rw [hW, hF, (ih d).mp e] at f
    omega
theorem LB.zer {r : Nat} (hW : WT 0 = 0) (hF : FG 0 = 0) : LB SZ WT FG room steps r 0 0 := ⟨Or.inr ⟨by decide, (LB.zero hW hF 0).mpr rfl, fun c hc => by rw [(LB.zero hW hF c).mp hc]; exact Int.le_refl _⟩, Or.inr ⟨by omega, by omega⟩⟩
end
theorem mulB {a b A B : Int} (ha : 0 ≤ a ∧ a ≤ A) (hb : 0 ≤ b ∧ b ≤ B) : 0 ≤ a * b ∧ a * b ≤ A * B := ⟨Int.mul_nonneg ha.1 hb.1, Int.mul_le_mul ha.2 hb.2 hb.1 (Int.le_trans ha.1 ha.2)⟩
def ItemsB (SZ WT FG : Nat → Int) (n : Nat) (Y : jM) : Prop := (WT 0 = 0 ∧ FG 0 = 0) ∧ ∀ S : Nat, S < 2 ^ n → Y 906 S = SZ S ∧ Y 907 S = WT S ∧ Y 908 S = FG S ∧ (0 ≤ SZ S ∧ SZ S ≤ 2000000000) ∧ (0 ≤ WT S ∧ WT S ≤ 800) ∧ 0 ≤ FG S ∧ FG S ≤ 2000000
theorem l_pp {X : jX} {Y : jM} {Q : Int → jM → Prop} {SZ WT FG : Nat → Int} {room steps : Int → Int} {n r : Nat} {rk rm st all : Int} (hrk : rk = r) (hr : r < 10) (hrm : room r = rm) (hst : steps r = st) (hs0 : 0 ≤ st ∧ st ≤ 99) (hrm0 : -2147483648 ≤ rm ∧ rm ≤ 2147483647) (hn8 : n ≤ 8) (hI : ItemsB SZ WT FG n Y) {s : Nat} {ss : Int} (hss : ss = s) (hsn : s < 2 ^ n) (hq : ∀ W : jM, Oth1 910 Y W → (∀ S, s < S → S < 2 ^ n → LB SZ WT FG room steps (r + 1) S (W 910 S)) → (∀ S, S < s → LB SZ WT FG room steps r S (W 910 S)) → PartG (WayB SZ WT FG room steps r s) 4611686018427387904 (fun q => q &&& s = q) (W 910 ss) → (W 910 ss = 4611686018427387904 ∨ (0 ≤ W 910 ss ∧ W 910 ss ≤ 1000000000000 * ((r : Int) + 1))) → jE X yX4_placeOn cX4_placeOn 11 none 2 Q W 113 [(0, jR 903), (1, jI rk), (2, jI rm), (3, jI st), (4, jI all), (5, jI ss), (6, jI 0)] []) : ∀ p0 p : Nat, p < p0 → p &&& s = p → ∀ W : jM, Oth1 910 Y W → (∀ S, s < S → S < 2 ^ n → LB SZ WT FG room steps (r + 1) S (W 910 S)) → (∀ S, S < s → LB SZ WT FG room steps r S (W 910 S)) → PartG (WayB SZ WT FG room steps r s) 4611686018427387904 (fun q => q &&& s = q ∧ (q = 0 ∨ p < q)) (W 910 ss) → (W 910 ss = 4611686018427387904 ∨ (0 ≤ W 910 ss ∧ W 910 ss ≤ 1000000000000 * ((r : Int) + 1))) → ∀ pp : Int, pp = p → ∀ x : List (Nat × jV), x = [(0, jR 903), (1, jI rk), (2, jI rm), (3, jI st), (4, jI all), (5, jI ss), (6, jI pp)] → jE X yX4_placeOn cX4_placeOn 11 none 2 Q W 13 x [] := by
  intro p0
  induction p0 with
  | zero =>
    intro p hp
    omega
  | succ p0 ih =>
    intro p hpl hp W hO hH hL hPart hcr pp hpp x hx
    subst hx
    have hs8 : 2 ^ n ≤ 256 := Nat.pow_le_pow_right (by decide) hn8
    have hps := sub_xor n p s hsn hp
    have hp256 : p < 256 := by omega
    by_cases hp0 : 0 < p
    case neg =>
      have e : p = 0 := by omega
      have e2 : pp = 0 := by omega
      subst e
      rw [e2]
      refine e_iload 15 dX4_placeOn_13 rfl rfl ?_
      refine e_if_le 18 113 dX4_placeOn_15 (by decide) (by decide) rfl (fun _ => ?_) (fun h => absurd h (by decide))
      exact hq W hO hH hL (hPart.cong (fun q => ⟨fun z => z.1, fun z => ⟨z, by omega⟩⟩)) hcr
    case pos =>
      have hnx : jand (pp - 1) ss = (((p - 1) &&& s : Nat) : Int) := by
        rw [show pp - 1 = ((p - 1 : Nat) : Int) by omega, hss]
        exact jand_nat (by omega)
      have hlt1 : (p - 1) &&& s < p0 := Nat.lt_of_le_of_lt Nat.and_le_left (by omega)
      have hIp := hI.2 p (sub_lt hsn hp)
      have hO6 : ∀ k, W 906 k = Y 906 k := fun k => by rw [hO 906 (by omega)]
      have hO7 : ∀ k, W 907 k = Y 907 k := fun k => by rw [hO 907 (by omega)]
      have hO8 : ∀ k, W 908 k = Y 908 k := fun k => by rw [hO 908 (by omega)]
      rw [← hO6, ← hO7, ← hO8] at hIp
      have hIa := hIp.1
      have hIb := hIp.2.2.2
      rw [← hIp.2.1, ← hIp.2.2.1] at hIb
      rw [← hpp] at hIa hIb
      have hLr := hL (s ^^^ p) (by omega)
      rw [show ((s ^^^ p : Nat) : Int) = ss - pp by omega] at hLr
      have hLrr := hLr.2
      have hmul := mulB (a := 10000000 * W 907 pp) (b := st) (A := 8000000000) (B := 99) (by omega) hs0
      have hmul2 := mulB (a := rk) (b := W 908 pp) (A := 10) (B := 2000000) (by omega) (by omega)
      refine e_iload 15 dX4_placeOn_13 rfl rfl ?_
      refine e_if_le 18 113 dX4_placeOn_15 (by omega) (by decide) rfl (fun b15 => ?_) (fun b15 => ?_)
      · omega
      · first
         | (exfalso; omega)
         | (skip
            refine e_aload_n (i := 0) 19 dX4_placeOn_18 rfl rfl rfl ?_
            refine e_getr (j := 7) 22 fl_4_30 dX4_placeOn_19 at_903 rfl rfl tp_903_7 rfl ?_
            refine e_iload 24 dX4_placeOn_22 rfl rfl ?_
            refine e_iload 26 dX4_placeOn_24 rfl rfl ?_
            refine e_isub 27 dX4_placeOn_26 rfl ?_
            refine e_lald 28 dX4_placeOn_27 ar_910 (by omega) (by omega) rfl (fun r27 => ?_)
            refine e_lstore (lsn := [(7, _), (0, _), (1, _), (2, _), (3, _), (4, _), (5, _), (6, _)]) 30 dX4_placeOn_28 (by decide) rfl rfl ?_
            refine e_aload_n (i := 0) 31 dX4_placeOn_30 rfl rfl rfl ?_
            refine e_getr (j := 3) 34 fl_4_18 dX4_placeOn_31 at_903 rfl rfl tp_903_3 rfl ?_
            refine e_iload 36 dX4_placeOn_34 rfl rfl ?_
            refine e_iald 37 dX4_placeOn_36 ar_906 (by omega) (by omega) rfl (fun r36 => ?_)
            refine e_iload_n (i := 2) 38 dX4_placeOn_37 rfl rfl rfl ?_
            refine e_icmp_gt 41 101 dX4_placeOn_38 (by omega) (by omega) (by decide) rfl (fun b38 => ?_) (fun b38 => ?_)
            · first
               | (exfalso; omega)
               | (skip
                  refine e_iload 103 dX4_placeOn_101 rfl rfl ?_
                  refine e_iconst 104 dX4_placeOn_103 rfl ?_
                  refine e_isub 105 dX4_placeOn_104 rfl ?_
                  refine e_iload 107 dX4_placeOn_105 rfl rfl ?_
                  refine e_iand 108 dX4_placeOn_107 rfl ?_
                  rw [hnx]
                  refine e_istore (lsn := [(6, _), (7, _), (0, _), (1, _), (2, _), (3, _), (4, _), (5, _)]) 110 dX4_placeOn_108 (by decide) rfl rfl ?_
                  refine e_goto 13 dX4_placeOn_110 (by decide) ?_
                  refine e_ls (ls2 := [(0, _), (1, _), (2, _), (3, _), (4, _), (5, _), (6, _)]) rfl ?_
                  refine ih ((p - 1) &&& s) hlt1 sub_step W hO hH hL ?_ hcr _ rfl _ rfl
                  exact hPart.skip (q := p) (wayB_no1 (by omega) (by omega)) (fun q => ⟨fun z => z.2.elim (fun w => Or.inl ⟨z.1, Or.inl w⟩) (fun w => ((sub_iff hsn hp0 hp z.1).mp w).imp (fun w => ⟨z.1, Or.inr w⟩) id), fun z => z.elim (fun w => ⟨w.1, w.2.imp id (fun x => (sub_iff hsn hp0 hp w.1).mpr (Or.inl x))⟩) (fun w => by rw [w]; exact ⟨hp, Or.inr ((sub_iff hsn hp0 hp hp).mpr (Or.inr rfl))⟩)⟩))
            · first
               | (exfalso; omega)
               | (skip
                  refine e_lload 43 dX4_placeOn_41 rfl rfl ?_
                  refine e_ldc2 (z := (4611686018427387904)) 46 (ix := 112) wd_1000 (by decide) dX4_placeOn_43 rfl ?_
                  refine e_lcmp 47 dX4_placeOn_46 (by omega) (by decide) rfl (fun b46 => ?_) (fun b46 => ?_) (fun b46 => ?_)
                  · skip
                    refine e_if_eq 50 101 dX4_placeOn_47 (by decide) (by decide) rfl (fun h => absurd h (by decide)) (fun _ => ?_)
                    refine e_lload 52 dX4_placeOn_50 rfl rfl ?_
                    refine e_ldc2 (z := (10000000)) 55 (ix := 124) wd_1006 (by decide) dX4_placeOn_52 rfl ?_
                    refine e_aload_n (i := 0) 56 dX4_placeOn_55 rfl rfl rfl ?_
                    refine e_getr (j := 4) 59 fl_4_21 dX4_placeOn_56 at_903 rfl rfl tp_903_4 rfl ?_
                    refine e_iload 61 dX4_placeOn_59 rfl rfl ?_
                    refine e_iald 62 dX4_placeOn_61 ar_907 (by omega) (by omega) rfl (fun r61 => ?_)
                    refine e_i2l 63 dX4_placeOn_62 (by omega) rfl ?_
                    refine e_lmul 64 dX4_placeOn_63 rfl ?_
                    refine e_iload_n (i := 3) 65 dX4_placeOn_64 rfl rfl rfl ?_
                    refine e_i2l 66 dX4_placeOn_65 (by omega) rfl ?_
                    refine e_lmul 67 dX4_placeOn_66 rfl ?_
                    refine e_ladd 68 dX4_placeOn_67 rfl ?_
                    refine e_iload_n (i := 1) 69 dX4_placeOn_68 rfl rfl rfl ?_
                    refine e_i2l 70 dX4_placeOn_69 (by omega) rfl ?_
                    refine e_aload_n (i := 0) 71 dX4_placeOn_70 rfl rfl rfl ?_
                    refine e_getr (j := 5) 74 fl_4_24 dX4_placeOn_71 at_903 rfl rfl tp_903_5 rfl ?_
                    refine e_iload 76 dX4_placeOn_74 rfl rfl ?_
                    refine e_iald 77 dX4_placeOn_76 ar_908 (by omega) (by omega) rfl (fun r76 => ?_)
                    refine e_i2l 78 dX4_placeOn_77 (by omega) rfl ?_
                    refine e_lmul 79 dX4_placeOn_78 rfl ?_
                    refine e_ladd 80 dX4_placeOn_79 rfl ?_
                    refine e_lstore (lsn := [(9, _), (7, _), (0, _), (1, _), (2, _), (3, _), (4, _), (5, _), (6, _)]) 82 dX4_placeOn_80 (by decide) rfl rfl ?_
                    refine e_aload_n (i := 0) 83 dX4_placeOn_82 rfl rfl rfl ?_
                    refine e_getr (j := 7) 86 fl_4_30 dX4_placeOn_83 at_903 rfl rfl tp_903_7 rfl ?_
                    refine e_iload 88 dX4_placeOn_86 rfl rfl ?_
                    refine e_aload_n (i := 0) 89 dX4_placeOn_88 rfl rfl rfl ?_
                    refine e_getr (j := 7) 92 fl_4_30 dX4_placeOn_89 at_903 rfl rfl tp_903_7 rfl ?_
                    refine e_iload 94 dX4_placeOn_92 rfl rfl ?_
                    refine e_lald 95 dX4_placeOn_94 ar_910 (by omega) (by omega) rfl (fun r94 => ?_)
                    refine e_lload 97 dX4_placeOn_95 rfl rfl ?_
                    refine e_minL 100 wd_1007 dX4_placeOn_97 (by omega) (by omega) (Nat.le_of_ble_eq_true rfl) (jroom (by decide)) rfl ?_
                    refine e_last 101 dX4_placeOn_100 ar_910 (by omega) (by omega) (by omega) rfl ?_
                    refine e_iload 103 dX4_placeOn_101 rfl rfl ?_
                    refine e_iconst 104 dX4_placeOn_103 rfl ?_
                    refine e_isub 105 dX4_placeOn_104 rfl ?_
                    refine e_iload 107 dX4_placeOn_105 rfl rfl ?_
                    refine e_iand 108 dX4_placeOn_107 rfl ?_
                    rw [hnx]
                    refine e_istore (lsn := [(6, _), (9, _), (7, _), (0, _), (1, _), (2, _), (3, _), (4, _), (5, _)]) 110 dX4_placeOn_108 (by decide) rfl rfl ?_
                    refine e_goto 13 dX4_placeOn_110 (by decide) ?_
                    refine e_ls (ls2 := [(0, _), (1, _), (2, _), (3, _), (4, _), (5, _), (6, _)]) rfl ?_
                    have hway := wayB_yes (S := s) (q := p) (by omega) hLr (by omega)
                    have hrb := hLr.2.resolve_left (by omega)
                    rw [← hIp.2.1, ← hIp.2.2.1, hst, ← hrk, ← hpp] at hway
                    refine ih ((p - 1) &&& s) hlt1 sub_step _ hO.set (fun S a b => by rw [jset_j (by omega)]; exact hH S a b) (fun S a => by rw [jset_j (by omega)]; exact hL S a) ?_ ?_ _ rfl _ rfl
                    · rw [jset_same]
                      exact hPart.put hway.1 hway.2 (by omega) (fun e => by omega) (fun e => by omega) (fun q => ⟨fun z => z.2.elim (fun w => Or.inl ⟨z.1, Or.inl w⟩) (fun w => ((sub_iff hsn hp0 hp z.1).mp w).imp (fun w => ⟨z.1, Or.inr w⟩) id), fun z => z.elim (fun w => ⟨w.1, w.2.imp id (fun x => (sub_iff hsn hp0 hp w.1).mpr (Or.inl x))⟩) (fun w => by rw [w]; exact ⟨hp, Or.inr ((sub_iff hsn hp0 hp hp).mpr (Or.inr rfl))⟩)⟩)
                    · rw [jset_same]
                      omega
                  · skip
                    refine e_if_eq 50 101 dX4_placeOn_47 (by decide) (by decide) rfl (fun _ => ?_) (fun h => absurd h (by decide))
                    refine e_iload 103 dX4_placeOn_101 rfl rfl ?_
                    refine e_iconst 104 dX4_placeOn_103 rfl ?_
                    refine e_isub 105 dX4_placeOn_104 rfl ?_
                    refine e_iload 107 dX4_placeOn_105 rfl rfl ?_
                    refine e_iand 108 dX4_placeOn_107 rfl ?_
                    rw [hnx]
                    refine e_istore (lsn := [(6, _), (7, _), (0, _), (1, _), (2, _), (3, _), (4, _), (5, _)]) 110 dX4_placeOn_108 (by decide) rfl rfl ?_
                    refine e_goto 13 dX4_placeOn_110 (by decide) ?_
                    refine e_ls (ls2 := [(0, _), (1, _), (2, _), (3, _), (4, _), (5, _), (6, _)]) rfl ?_
                    refine ih ((p - 1) &&& s) hlt1 sub_step W hO hH hL ?_ hcr _ rfl _ rfl
                    have hle : LB SZ WT FG room steps r (s ^^^ p) 4611686018427387904 := by
                      have q := hLr
                      rw [show W 910 (ss - pp) = 4611686018427387904 by omega] at q
                      exact q
                    exact hPart.skip (q := p) (wayB_no2 hle) (fun q => ⟨fun z => z.2.elim (fun w => Or.inl ⟨z.1, Or.inl w⟩) (fun w => ((sub_iff hsn hp0 hp z.1).mp w).imp (fun w => ⟨z.1, Or.inr w⟩) id), fun z => z.elim (fun w => ⟨w.1, w.2.imp id (fun x => (sub_iff hsn hp0 hp w.1).mpr (Or.inl x))⟩) (fun w => by rw [w]; exact ⟨hp, Or.inr ((sub_iff hsn hp0 hp hp).mpr (Or.inr rfl))⟩)⟩)
                  · skip
                    refine e_if_eq 50 101 dX4_placeOn_47 (by decide) (by decide) rfl (fun h => absurd h (by decide)) (fun _ => ?_)
                    refine e_lload 52 dX4_placeOn_50 rfl rfl ?_
                    refine e_ldc2 (z := (10000000)) 55 (ix := 124) wd_1006 (by decide) dX4_placeOn_52 rfl ?_
                    refine e_aload_n (i := 0) 56 dX4_placeOn_55 rfl rfl rfl ?_
                    refine e_getr (j := 4) 59 fl_4_21 dX4_placeOn_56 at_903 rfl rfl tp_903_4 rfl ?_
                    refine e_iload 61 dX4_placeOn_59 rfl rfl ?_
                    refine e_iald 62 dX4_placeOn_61 ar_907 (by omega) (by omega) rfl (fun r61 => ?_)
                    refine e_i2l 63 dX4_placeOn_62 (by omega) rfl ?_
                    refine e_lmul 64 dX4_placeOn_63 rfl ?_
                    refine e_iload_n (i := 3) 65 dX4_placeOn_64 rfl rfl rfl ?_
                    refine e_i2l 66 dX4_placeOn_65 (by omega) rfl ?_
                    refine e_lmul 67 dX4_placeOn_66 rfl ?_
                    refine e_ladd 68 dX4_placeOn_67 rfl ?_
                    refine e_iload_n (i := 1) 69 dX4_placeOn_68 rfl rfl rfl ?_
                    refine e_i2l 70 dX4_placeOn_69 (by omega) rfl ?_
                    refine e_aload_n (i := 0) 71 dX4_placeOn_70 rfl rfl rfl ?_
                    refine e_getr (j := 5) 74 fl_4_24 dX4_placeOn_71 at_903 rfl rfl tp_903_5 rfl ?_
                    refine e_iload 76 dX4_placeOn_74 rfl rfl ?_
                    refine e_iald 77 dX4_placeOn_76 ar_908 (by omega) (by omega) rfl (fun r76 => ?_)
                    refine e_i2l 78 dX4_placeOn_77 (by omega) rfl ?_
                    refine e_lmul 79 dX4_placeOn_78 rfl ?_
                    refine e_ladd 80 dX4_placeOn_79 rfl ?_
                    refine e_lstore (lsn := [(9, _), (7, _), (0, _), (1, _), (2, _), (3, _), (4, _), (5, _), (6, _)]) 82 dX4_placeOn_80 (by decide) rfl rfl ?_
                    refine e_aload_n (i := 0) 83 dX4_placeOn_82 rfl rfl rfl ?_
                    refine e_getr (j := 7) 86 fl_4_30 dX4_placeOn_83 at_903 rfl rfl tp_903_7 rfl ?_
                    refine e_iload 88 dX4_placeOn_86 rfl rfl ?_
                    refine e_aload_n (i := 0) 89 dX4_placeOn_88 rfl rfl rfl ?_
                    refine e_getr (j := 7) 92 fl_4_30 dX4_placeOn_89 at_903 rfl rfl tp_903_7 rfl ?_
                    refine e_iload 94 dX4_placeOn_92 rfl rfl ?_
                    refine e_lald 95 dX4_placeOn_94 ar_910 (by omega) (by omega) rfl (fun r94 => ?_)
                    refine e_lload 97 dX4_placeOn_95 rfl rfl ?_
                    refine e_minL 100 wd_1007 dX4_placeOn_97 (by omega) (by omega) (Nat.le_of_ble_eq_true rfl) (jroom (by decide)) rfl ?_
                    refine e_last 101 dX4_placeOn_100 ar_910 (by omega) (by omega) (by omega) rfl ?_
                    refine e_iload 103 dX4_placeOn_101 rfl rfl ?_
                    refine e_iconst 104 dX4_placeOn_103 rfl ?_
                    refine e_isub 105 dX4_placeOn_104 rfl ?_
                    refine e_iload 107 dX4_placeOn_105 rfl rfl ?_
                    refine e_iand 108 dX4_placeOn_107 rfl ?_
                    rw [hnx]
                    refine e_istore (lsn := [(6, _), (9, _), (7, _), (0, _), (1, _), (2, _), (3, _), (4, _), (5, _)]) 110 dX4_placeOn_108 (by decide) rfl rfl ?_
                    refine e_goto 13 dX4_placeOn_110 (by decide) ?_
                    refine e_ls (ls2 := [(0, _), (1, _), (2, _), (3, _), (4, _), (5, _), (6, _)]) rfl ?_
                    have hway := wayB_yes (S := s) (q := p) (by omega) hLr (by omega)
                    have hrb := hLr.2.resolve_left (by omega)
                    rw [← hIp.2.1, ← hIp.2.2.1, hst, ← hrk, ← hpp] at hway
                    refine ih ((p - 1) &&& s) hlt1 sub_step _ hO.set (fun S a b => by rw [jset_j (by omega)]; exact hH S a b) (fun S a => by rw [jset_j (by omega)]; exact hL S a) ?_ ?_ _ rfl _ rfl
                    · rw [jset_same]
                      exact hPart.put hway.1 hway.2 (by omega) (fun e => by omega) (fun e => by omega) (fun q => ⟨fun z => z.2.elim (fun w => Or.inl ⟨z.1, Or.inl w⟩) (fun w => ((sub_iff hsn hp0 hp z.1).mp w).imp (fun w => ⟨z.1, Or.inr w⟩) id), fun z => z.elim (fun w => ⟨w.1, w.2.imp id (fun x => (sub_iff hsn hp0 hp w.1).mpr (Or.inl x))⟩) (fun w => by rw [w]; exact ⟨hp, Or.inr ((sub_iff hsn hp0 hp hp).mpr (Or.inr rfl))⟩)⟩)
                    · rw [jset_same]
                      omega))

