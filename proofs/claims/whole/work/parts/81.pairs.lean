/-! TRIPS *** the class: the least *** -/
def Led (a : Int → Int) (arms : Int) (g : Nat → Int) (n : Nat) (no : Int) (Y : jM) (k : Int) (s : Nat) : Prop := ∀ S : Nat, S < s → Lst (tripT a arms) (selF S g n 0) no (Y k S) ∧ (Y k S = no ∨ (0 ≤ Y k S ∧ Y k S ≤ 200 * (S : Int)))
def Oth1 (k0 : Int) (Y Z : jM) : Prop := ∀ k, k ≠ k0 → Z k = Y k
theorem Oth1.set {k0 i v : Int} {Y Z : jM} (h : Oth1 k0 Y Z) : Oth1 k0 Y (jset Z k0 i v) := fun q hq => by
  rw [show jset Z k0 i v q = Z q from funext fun p => jset_k hq]
  exact h q hq
theorem Led.set {a : Int → Int} {arms no k i v : Int} {g : Nat → Int} {n s : Nat} {Y : jM} (h : Led a arms g n no Y k s) (hi : i = s) : Led a arms g n no (jset Y k i v) k s := fun S hS => by
  rw [jset_j (by omega)]
  exact h S hS
theorem Led.put {a : Int → Int} {arms no k : Int} {g : Nat → Int} {n s : Nat} {Y : jM} (h : Led a arms g n no Y k s) (h1 : Lst (tripT a arms) (selF s g n 0) no (Y k s)) (h2 : Y k s = no ∨ (0 ≤ Y k s ∧ Y k s ≤ 200 * (s : Int))) : Led a arms g n no Y k (s + 1) := fun S hS => by
  by_cases e : S = s
  · rw [e]
    exact ⟨h1, h2⟩
  · exact h S (by omega)
theorem l_tp {X : jX} {Y : jM} {Q : Int → jM → Prop} {a : Int → Int} {arms all : Int} {g : Nat → Int} {n : Nat} (har : 1 ≤ arms ∧ arms ≤ 99) (hn8 : n ≤ 8) (hI : Items a g n Y) {s b : Nat} {ss lo : Int} (hss : ss = s) (hsn : s < 2 ^ n) (hs0 : 0 < s) (hlo : lo = (2 ^ b : Nat)) (hbn : b < n) (hq : ∀ W : jM, Oth1 911 Y W → Led a arms g n 1073741824 W 911 s → Part (tripT a arms) g n s 1073741824 (fun q => (q &&& s = q ∧ 0 < q) ∧ q.testBit b = true) (W 911 ss) → (W 911 ss = 1073741824 ∨ (0 ≤ W 911 ss ∧ W 911 ss ≤ 200 * ss)) → jE X yX4_leastTrips cX4_leastTrips 7 (some .int) 2 Q W 128 [(0, jR 903), (1, jI arms), (2, jI all), (3, jI ss), (4, jI lo), (5, jI 0)] []) : ∀ p0 p : Nat, p < p0 → p &&& s = p → ∀ W : jM, Oth1 911 Y W → Led a arms g n 1073741824 W 911 s → Part (tripT a arms) g n s 1073741824 (fun q => ((q &&& s = q ∧ 0 < q) ∧ q.testBit b = true) ∧ p < q) (W 911 ss) → (W 911 ss = 1073741824 ∨ (0 ≤ W 911 ss ∧ W 911 ss ≤ 200 * ss)) → ∀ pp : Int, pp = p → ∀ x : List (Nat × jV), x = [(0, jR 903), (1, jI arms), (2, jI all), (3, jI ss), (4, jI lo), (5, jI pp)] → jE X yX4_leastTrips cX4_leastTrips 7 (some .int) 2 Q W 48 x [] := by
  intro p0
  induction p0 with
  | zero =>
    intro p hp
    omega
  | succ p0 ih =>
    intro p hpl hp W hO hL hPart hcr pp hpp x hx
    subst hx
    have hs8 : 2 ^ n ≤ 256 := Nat.pow_le_pow_right (by decide) hn8
    have hps := sub_xor n p s hsn hp
    have ea : jand pp lo = ((p &&& 2 ^ b : Nat) : Int) := by
      rw [hpp, hlo]
      exact jand_nat (by omega)
    have hal : p &&& 2 ^ b ≤ p := Nat.and_le_left
    have hp256 : p < 256 := by omega
    have hlt : 2 ^ b < 256 := Nat.lt_of_lt_of_le (Nat.pow_lt_pow_right (by decide) hbn) hs8
    by_cases hp0 : 0 < p
    case neg =>
      have e : p = 0 := by omega
      have e2 : pp = 0 := by omega
      subst e
      rw [e2]
      refine e_iload 50 dX4_leastTrips_48 rfl rfl ?_
      refine e_if_le 53 128 dX4_leastTrips_50 (by decide) (by decide) rfl (fun _ => ?_) (fun h => absurd h (by decide))
      exact hq W hO hL (hPart.cong (fun q => ⟨fun z => z.1, fun z => ⟨z, z.1.2⟩⟩)) hcr
    case pos =>
      have hnx : jand (pp - 1) ss = (((p - 1) &&& s : Nat) : Int) := by
        rw [show pp - 1 = ((p - 1 : Nat) : Int) by omega, hss]
        exact jand_nat (by omega)
      have hIp := hI p (sub_lt hsn hp)
      have hO6 : ∀ k, W 906 k = Y 906 k := fun k => by rw [hO 906 (by omega)]
      have hO9 : ∀ k, W 909 k = Y 909 k := fun k => by rw [hO 909 (by omega)]
      rw [← hO6, ← hO9] at hIp
      have hIp2 := hIp.2.2
      rw [← hpp] at hIp2
      have hLr := (hL (s - p) (by omega)).2
      rw [show ((s - p : Nat) : Int) = ss - pp by omega] at hLr
      refine e_iload 50 dX4_leastTrips_48 rfl rfl ?_
      refine e_if_le 53 128 dX4_leastTrips_50 (by omega) (by decide) rfl (fun b50 => ?_) (fun b50 => ?_)
      · omega
      · first
         | (exfalso; omega)
         | (skip
            refine e_aload_n (i := 0) 54 dX4_leastTrips_53 rfl rfl rfl ?_
            refine e_getr (j := 8) 57 fl_4_34 dX4_leastTrips_54 at_903 rfl rfl tp_903_8 rfl ?_
            refine e_iload_n (i := 3) 58 dX4_leastTrips_57 rfl rfl rfl ?_
            refine e_iload 60 dX4_leastTrips_58 rfl rfl ?_
            refine e_isub 61 dX4_leastTrips_60 rfl ?_
            refine e_iald 62 dX4_leastTrips_61 ar_911 (by omega) (by omega) rfl (fun r61 => ?_)
            refine e_istore (lsn := [(6, _), (0, _), (1, _), (2, _), (3, _), (4, _), (5, _)]) 64 dX4_leastTrips_62 (by decide) rfl rfl ?_
            refine e_iload 66 dX4_leastTrips_64 rfl rfl ?_
            refine e_iload 68 dX4_leastTrips_66 rfl rfl ?_
            refine e_iand 69 dX4_leastTrips_68 rfl ?_
            rw [ea]
            refine e_if_eq 72 117 dX4_leastTrips_69 (by omega) (by decide) rfl (fun b69 => ?_) (fun b69 => ?_)
            · first
               | (exfalso; omega)
               | (skip
                  refine e_iload 119 dX4_leastTrips_117 rfl rfl ?_
                  refine e_iconst 120 dX4_leastTrips_119 rfl ?_
                  refine e_isub 121 dX4_leastTrips_120 rfl ?_
                  refine e_iload_n (i := 3) 122 dX4_leastTrips_121 rfl rfl rfl ?_
                  refine e_iand 123 dX4_leastTrips_122 rfl ?_
                  rw [hnx]
                  refine e_istore (lsn := [(5, _), (6, _), (0, _), (1, _), (2, _), (3, _), (4, _)]) 125 dX4_leastTrips_123 (by decide) rfl rfl ?_
                  refine e_goto 48 dX4_leastTrips_125 (by decide) ?_
                  refine e_ls (ls2 := [(0, _), (1, _), (2, _), (3, _), (4, _), (5, _)]) rfl ?_
                  refine ih ((p - 1) &&& s) (Nat.lt_of_le_of_lt Nat.and_le_left (by omega)) sub_step W hO hL ?_ hcr _ rfl _ rfl
                  have hpb : p.testBit b = false := and_tp.mp (by omega)
                  exact (hPart.cong (fun q => ⟨fun z => ⟨z.1, (sub_iff hsn hp0 hp z.1.1.1).mpr (Or.inl z.2)⟩, fun z => ⟨z.1, ((sub_iff hsn hp0 hp z.1.1.1).mp z.2).resolve_right (fun w => by rw [w] at z; exact absurd (z.1.2.symm.trans hpb) (by decide))⟩⟩)))
            · first
               | (exfalso; omega)
               | (skip
                  refine e_iload 74 dX4_leastTrips_72 rfl rfl ?_
                  refine e_ldc (z := (1073741824)) 76 (ix := 141) wd_1047 (by decide) dX4_leastTrips_74 rfl ?_
                  refine e_icmp_eq 79 117 dX4_leastTrips_76 (by omega) (by decide) (by decide) rfl (fun b76 => ?_) (fun b76 => ?_)
                  · first
                     | (exfalso; omega)
                     | (skip
                        refine e_iload 119 dX4_leastTrips_117 rfl rfl ?_
                        refine e_iconst 120 dX4_leastTrips_119 rfl ?_
                        refine e_isub 121 dX4_leastTrips_120 rfl ?_
                        refine e_iload_n (i := 3) 122 dX4_leastTrips_121 rfl rfl rfl ?_
                        refine e_iand 123 dX4_leastTrips_122 rfl ?_
                        rw [hnx]
                        refine e_istore (lsn := [(5, _), (6, _), (0, _), (1, _), (2, _), (3, _), (4, _)]) 125 dX4_leastTrips_123 (by decide) rfl rfl ?_
                        refine e_goto 48 dX4_leastTrips_125 (by decide) ?_
                        refine e_ls (ls2 := [(0, _), (1, _), (2, _), (3, _), (4, _), (5, _)]) rfl ?_
                        refine ih ((p - 1) &&& s) (Nat.lt_of_le_of_lt Nat.and_le_left (by omega)) sub_step W hO hL ?_ hcr _ rfl _ rfl
                        have hpb : p.testBit b = true := by
                          cases hc : p.testBit b with
                          | true => rfl
                          | false =>
                            have := and_tp.mpr hc
                            omega
                        have hle : Lst (tripT a arms) (selF (s ^^^ p) g n 0) 1073741824 1073741824 := by
                          rw [hps.2]
                          have q := (hL (s - p) (by omega)).1
                          rw [show ((s - p : Nat) : Int) = ss - pp by omega, show W 911 (ss - pp) = 1073741824 by omega] at q
                          exact q
                        exact hPart.skip (way_no2 hle) (q := p) (fun q => ⟨fun z => ((sub_iff hsn hp0 hp z.1.1.1).mp z.2).imp (fun w => ⟨z.1, w⟩) id, fun z => z.elim (fun w => ⟨w.1, (sub_iff hsn hp0 hp w.1.1.1).mpr (Or.inl w.2)⟩) (fun w => by rw [w]; exact ⟨⟨⟨hp, hp0⟩, hpb⟩, (sub_iff hsn hp0 hp hp).mpr (Or.inr rfl)⟩)⟩))
                  · first
                     | (exfalso; omega)
                     | (skip
                        refine e_aload_n (i := 0) 80 dX4_leastTrips_79 rfl rfl rfl ?_
                        refine e_getr (j := 3) 83 fl_4_18 dX4_leastTrips_80 at_903 rfl rfl tp_903_3 rfl ?_
                        refine e_iload 85 dX4_leastTrips_83 rfl rfl ?_
                        refine e_iald 86 dX4_leastTrips_85 ar_906 (by omega) (by omega) rfl (fun r85 => ?_)
                        refine e_iload_n (i := 1) 87 dX4_leastTrips_86 rfl rfl rfl ?_
                        refine e_icmp_gt 90 117 dX4_leastTrips_87 (by omega) (by omega) (by decide) rfl (fun b87 => ?_) (fun b87 => ?_)
                        · first
                           | (exfalso; omega)
                           | (skip
                              refine e_iload 119 dX4_leastTrips_117 rfl rfl ?_
                              refine e_iconst 120 dX4_leastTrips_119 rfl ?_
                              refine e_isub 121 dX4_leastTrips_120 rfl ?_
                              refine e_iload_n (i := 3) 122 dX4_leastTrips_121 rfl rfl rfl ?_
                              refine e_iand 123 dX4_leastTrips_122 rfl ?_
                              rw [hnx]
                              refine e_istore (lsn := [(5, _), (6, _), (0, _), (1, _), (2, _), (3, _), (4, _)]) 125 dX4_leastTrips_123 (by decide) rfl rfl ?_
                              refine e_goto 48 dX4_leastTrips_125 (by decide) ?_
                              refine e_ls (ls2 := [(0, _), (1, _), (2, _), (3, _), (4, _), (5, _)]) rfl ?_
                              refine ih ((p - 1) &&& s) (Nat.lt_of_le_of_lt Nat.and_le_left (by omega)) sub_step W hO hL ?_ hcr _ rfl _ rfl
                              have hpb : p.testBit b = true := by
                                cases hc : p.testBit b with
                                | true => rfl
                                | false =>
                                  have := and_tp.mpr hc
                                  omega
                              exact hPart.skip (way_no1 (fun t ht => by have := ht.1; have z := hIp.1; rw [← hpp] at z; omega)) (q := p) (fun q => ⟨fun z => ((sub_iff hsn hp0 hp z.1.1.1).mp z.2).imp (fun w => ⟨z.1, w⟩) id, fun z => z.elim (fun w => ⟨w.1, (sub_iff hsn hp0 hp w.1.1.1).mpr (Or.inl w.2)⟩) (fun w => by rw [w]; exact ⟨⟨⟨hp, hp0⟩, hpb⟩, (sub_iff hsn hp0 hp hp).mpr (Or.inr rfl)⟩)⟩))
                        · first
                           | (exfalso; omega)
                           | (skip
                              refine e_aload_n (i := 0) 91 dX4_leastTrips_90 rfl rfl rfl ?_
                              refine e_getr (j := 8) 94 fl_4_34 dX4_leastTrips_91 at_903 rfl rfl tp_903_8 rfl ?_
                              refine e_iload_n (i := 3) 95 dX4_leastTrips_94 rfl rfl rfl ?_
                              refine e_aload_n (i := 0) 96 dX4_leastTrips_95 rfl rfl rfl ?_
                              refine e_getr (j := 8) 99 fl_4_34 dX4_leastTrips_96 at_903 rfl rfl tp_903_8 rfl ?_
                              refine e_iload_n (i := 3) 100 dX4_leastTrips_99 rfl rfl rfl ?_
                              refine e_iald 101 dX4_leastTrips_100 ar_911 (by omega) (by omega) rfl (fun r100 => ?_)
                              refine e_iload 103 dX4_leastTrips_101 rfl rfl ?_
                              refine e_iconst 104 dX4_leastTrips_103 rfl ?_
                              refine e_aload_n (i := 0) 105 dX4_leastTrips_104 rfl rfl rfl ?_
                              refine e_getr (j := 6) 108 fl_4_27 dX4_leastTrips_105 at_903 rfl rfl tp_903_6 rfl ?_
                              refine e_iload 110 dX4_leastTrips_108 rfl rfl ?_
                              refine e_iald 111 dX4_leastTrips_110 ar_909 (by omega) (by omega) rfl (fun r110 => ?_)
                              refine e_imul 112 dX4_leastTrips_111 rfl ?_
                              refine e_iadd 113 dX4_leastTrips_112 rfl ?_
                              refine e_minI 116 wd_1048 dX4_leastTrips_113 (by omega) (by omega) (Nat.le_of_ble_eq_true rfl) (jroom (by decide)) rfl ?_
                              refine e_iast 117 dX4_leastTrips_116 ar_911 (by omega) (by omega) (by omega) rfl ?_
                              refine e_iload 119 dX4_leastTrips_117 rfl rfl ?_
                              refine e_iconst 120 dX4_leastTrips_119 rfl ?_
                              refine e_isub 121 dX4_leastTrips_120 rfl ?_
                              refine e_iload_n (i := 3) 122 dX4_leastTrips_121 rfl rfl rfl ?_
                              refine e_iand 123 dX4_leastTrips_122 rfl ?_
                              rw [hnx]
                              refine e_istore (lsn := [(5, _), (6, _), (0, _), (1, _), (2, _), (3, _), (4, _)]) 125 dX4_leastTrips_123 (by decide) rfl rfl ?_
                              refine e_goto 48 dX4_leastTrips_125 (by decide) ?_
                              refine e_ls (ls2 := [(0, _), (1, _), (2, _), (3, _), (4, _), (5, _)]) rfl ?_
                              have hpb : p.testBit b = true := by
                                cases hc : p.testBit b with
                                | true => rfl
                                | false =>
                                  have := and_tp.mpr hc
                                  omega
                              have hL2 := hL (s - p) (by omega)
                              rw [show ((s - p : Nat) : Int) = ss - pp by omega] at hL2
                              have hle : Lst (tripT a arms) (selF (s ^^^ p) g n 0) 1073741824 (W 911 (ss - pp)) := by
                                rw [hps.2]
                                exact hL2.1
                              have hTp : tripT a arms (selF p g n 0) (2 * W 909 pp) := ⟨by rw [← hIp.1, ← hpp]; omega, by rw [← hIp.2.1, ← hpp]⟩
                              have hway := way_yes (m := s) hTp (fun t2 ht2 => hTp.uq ht2) hle (by omega)
                              have hrb : 0 ≤ W 911 (ss - pp) ∧ W 911 (ss - pp) ≤ 200 * (ss - pp) := hL2.2.resolve_left (by omega)
                              refine ih ((p - 1) &&& s) (Nat.lt_of_le_of_lt Nat.and_le_left (by omega)) sub_step _ hO.set (hL.set hss) ?_ ?_ _ rfl _ rfl
                              · rw [jset_same]
                                exact hPart.put hway.1 hway.2 (by omega) (fun e => by omega) (fun e => by omega) (fun q => ⟨fun z => ((sub_iff hsn hp0 hp z.1.1.1).mp z.2).imp (fun w => ⟨z.1, w⟩) id, fun z => z.elim (fun w => ⟨w.1, (sub_iff hsn hp0 hp w.1.1.1).mpr (Or.inl w.2)⟩) (fun w => by rw [w]; exact ⟨⟨⟨hp, hp0⟩, hpb⟩, (sub_iff hsn hp0 hp hp).mpr (Or.inr rfl)⟩)⟩)
                              · rw [jset_same]
                                omega))))

