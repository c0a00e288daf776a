section DEV58
/-! COPIES: a whole shop; PAIRS: other, image, restore -/
theorem sbo_at {b : Int} (hb : jSB b) : jAt 949 b 8 := by
  have h := atS (o := 0) (ci := 8) hb (by decide) (by decide) (by decide +kernel)
  rwa [Int.add_zero] at h
theorem sb_t0 {b : Int} (hb : jSB b) : topo b 0 = some (b + 1) := by
  have h := topo_of (o := 0) (j := 0) (t := 1) hb (by decide) (by decide) (by decide) (by decide +kernel) (by decide)
  rwa [Int.add_zero] at h
theorem sb_t1 {b : Int} (hb : jSB b) : topo b 1 = some (b + 6) := by
  have h := topo_of (o := 0) (j := 1) (t := 6) hb (by decide) (by decide) (by decide) (by decide +kernel) (by decide)
  rwa [Int.add_zero] at h
theorem sb_t3 {b : Int} (hb : jSB b) : topo b 3 = some (b + 11) := by
  have h := topo_of (o := 0) (j := 3) (t := 11) hb (by decide) (by decide) (by decide) (by decide +kernel) (by decide)
  rwa [Int.add_zero] at h
theorem sb_t5 {b : Int} (hb : jSB b) : topo b 5 = some (b + 15) := by
  have h := topo_of (o := 0) (j := 5) (t := 15) hb (by decide) (by decide) (by decide) (by decide +kernel) (by decide)
  rwa [Int.add_zero] at h
theorem sb_t7 {b : Int} (hb : jSB b) : topo b 7 = some (b + 16) := by
  have h := topo_of (o := 0) (j := 7) (t := 16) hb (by decide) (by decide) (by decide) (by decide +kernel) (by decide)
  rwa [Int.add_zero] at h
theorem sb_t9 {b : Int} (hb : jSB b) : topo b 9 = some (b + 17) := by
  have h := topo_of (o := 0) (j := 9) (t := 17) hb (by decide) (by decide) (by decide) (by decide +kernel) (by decide)
  rwa [Int.add_zero] at h
theorem sb_t11 {b : Int} (hb : jSB b) : topo b 11 = some (b + 18) := by
  have h := topo_of (o := 0) (j := 11) (t := 18) hb (by decide) (by decide) (by decide) (by decide +kernel) (by decide)
  rwa [Int.add_zero] at h
theorem sb_t13 {b : Int} (hb : jSB b) : topo b 13 = some (b + 19) := by
  have h := topo_of (o := 0) (j := 13) (t := 19) hb (by decide) (by decide) (by decide) (by decide +kernel) (by decide)
  rwa [Int.add_zero] at h
theorem sb_t15 {b : Int} (hb : jSB b) : topo b 15 = some (b + 30) := by
  have h := topo_of (o := 0) (j := 15) (t := 30) hb (by decide) (by decide) (by decide) (by decide +kernel) (by decide)
  rwa [Int.add_zero] at h
theorem sb_t16 {b : Int} (hb : jSB b) : topo b 16 = some (b + 37) := by
  have h := topo_of (o := 0) (j := 16) (t := 37) hb (by decide) (by decide) (by decide) (by decide +kernel) (by decide)
  rwa [Int.add_zero] at h
theorem sb_t18 {b : Int} (hb : jSB b) : topo b 18 = some (b + 42) := by
  have h := topo_of (o := 0) (j := 18) (t := 42) hb (by decide) (by decide) (by decide) (by decide +kernel) (by decide)
  rwa [Int.add_zero] at h
theorem sb_lw {b o : Int} (hb : jSB b) (ho : o = 1 ∨ o = 6) : jLw (b + o) := by
  rcases ho with h | h <;> subst h
  · refine ⟨atS hb (by decide) (by decide) (by decide +kernel), ⟨?_, ?_⟩, ⟨?_, ?_⟩, ⟨?_, ?_⟩, ?_, ?_⟩
    · have h := topo_of (o := 1) (j := 1) (t := 2) hb (by decide) (by decide) (by decide) (by decide +kernel) (by decide)
      rwa [show b + 2 = b + 1 + 1 by omega] at h
    · have h := arS (o := 2) (c := 13) (z := 8) hb (by decide) (by decide) (by decide +kernel) (by decide) (by decide)
      rwa [show b + 2 = b + 1 + 1 by omega] at h
    · have h := topo_of (o := 1) (j := 2) (t := 3) hb (by decide) (by decide) (by decide) (by decide +kernel) (by decide)
      rwa [show b + 3 = b + 1 + 2 by omega] at h
    · have h := arS (o := 3) (c := 13) (z := 8) hb (by decide) (by decide) (by decide +kernel) (by decide) (by decide)
      rwa [show b + 3 = b + 1 + 2 by omega] at h
    · have h := topo_of (o := 1) (j := 3) (t := 4) hb (by decide) (by decide) (by decide) (by decide +kernel) (by decide)
      rwa [show b + 4 = b + 1 + 3 by omega] at h
    · have h := arS (o := 4) (c := 13) (z := 8) hb (by decide) (by decide) (by decide +kernel) (by decide) (by decide)
      rwa [show b + 4 = b + 1 + 3 by omega] at h
    · have h := topo_of (o := 1) (j := 4) (t := 5) hb (by decide) (by decide) (by decide) (by decide +kernel) (by decide)
      rwa [show b + 5 = b + 1 + 4 by omega] at h
    · have h := arS (o := 5) (c := 13) (z := 6) hb (by decide) (by decide) (by decide +kernel) (by decide) (by decide)
      rwa [show b + 5 = b + 1 + 4 by omega] at h
  · refine ⟨atS hb (by decide) (by decide) (by decide +kernel), ⟨?_, ?_⟩, ⟨?_, ?_⟩, ⟨?_, ?_⟩, ?_, ?_⟩
    · have h := topo_of (o := 6) (j := 1) (t := 7) hb (by decide) (by decide) (by decide) (by decide +kernel) (by decide)
      rwa [show b + 7 = b + 6 + 1 by omega] at h
    · have h := arS (o := 7) (c := 13) (z := 8) hb (by decide) (by decide) (by decide +kernel) (by decide) (by decide)
      rwa [show b + 7 = b + 6 + 1 by omega] at h
    · have h := topo_of (o := 6) (j := 2) (t := 8) hb (by decide) (by decide) (by decide) (by decide +kernel) (by decide)
      rwa [show b + 8 = b + 6 + 2 by omega] at h
    · have h := arS (o := 8) (c := 13) (z := 8) hb (by decide) (by decide) (by decide +kernel) (by decide) (by decide)
      rwa [show b + 8 = b + 6 + 2 by omega] at h
    · have h := topo_of (o := 6) (j := 3) (t := 9) hb (by decide) (by decide) (by decide) (by decide +kernel) (by decide)
      rwa [show b + 9 = b + 6 + 3 by omega] at h
    · have h := arS (o := 9) (c := 13) (z := 8) hb (by decide) (by decide) (by decide +kernel) (by decide) (by decide)
      rwa [show b + 9 = b + 6 + 3 by omega] at h
    · have h := topo_of (o := 6) (j := 4) (t := 10) hb (by decide) (by decide) (by decide) (by decide +kernel) (by decide)
      rwa [show b + 10 = b + 6 + 4 by omega] at h
    · have h := arS (o := 10) (c := 13) (z := 6) hb (by decide) (by decide) (by decide +kernel) (by decide) (by decide)
      rwa [show b + 10 = b + 6 + 4 by omega] at h
theorem sb_lk {b : Int} (hb : jSB b) : jLk (b + 11) := by
  refine ⟨atS hb (by decide) (by decide) (by decide +kernel), ⟨?_, ?_⟩, ⟨?_, ?_⟩, ?_, ?_⟩
  · have h := topo_of (o := 11) (j := 2) (t := 12) hb (by decide) (by decide) (by decide) (by decide +kernel) (by decide)
    rwa [show b + 12 = b + 11 + 1 by omega] at h
  · have h := arS (o := 12) (c := 13) (z := 9) hb (by decide) (by decide) (by decide +kernel) (by decide) (by decide)
    rwa [show b + 12 = b + 11 + 1 by omega] at h
  · have h := topo_of (o := 11) (j := 3) (t := 13) hb (by decide) (by decide) (by decide) (by decide +kernel) (by decide)
    rwa [show b + 13 = b + 11 + 2 by omega] at h
  · have h := arS (o := 13) (c := 13) (z := 400) hb (by decide) (by decide) (by decide +kernel) (by decide) (by decide)
    rwa [show b + 13 = b + 11 + 2 by omega] at h
  · have h := topo_of (o := 11) (j := 4) (t := 14) hb (by decide) (by decide) (by decide) (by decide +kernel) (by decide)
    rwa [show b + 14 = b + 11 + 3 by omega] at h
  · have h := arS (o := 14) (c := 13) (z := 400) hb (by decide) (by decide) (by decide +kernel) (by decide) (by decide)
    rwa [show b + 14 = b + 11 + 3 by omega] at h
theorem sb_a15 {b : Int} (hb : jSB b) : jAr 949 (b + 15) 17 12 := arS hb (by decide) (by decide) (by decide +kernel) (by decide) (by decide)
theorem sb_a16 {b : Int} (hb : jSB b) : jAr 949 (b + 16) 18 16 := arS hb (by decide) (by decide) (by decide +kernel) (by decide) (by decide)
theorem sb_a17 {b : Int} (hb : jSB b) : jAr 949 (b + 17) 19 60 := arS hb (by decide) (by decide) (by decide +kernel) (by decide) (by decide)
theorem sb_a18 {b : Int} (hb : jSB b) : jAr 949 (b + 18) 20 150 := arS hb (by decide) (by decide) (by decide +kernel) (by decide) (by decide)
/-- the cell c is n rows of z ints, which lie behind it -/
def jRw (c n z : Int) : Prop := jAr 949 c 21 n ∧ ∀ i, 0 ≤ i → i < n → topo c i = some (c + 1 + i) ∧ jAr 949 (c + 1 + i) 13 z
theorem jRw.ar {c n z : Int} (h : jRw c n z) : jAr 949 c 21 n := h.1
theorem jRw.t {c n z i : Int} (h : jRw c n z) (h0 : 0 ≤ i) (h1 : i < n) : topo c i = some (c + 1 + i) := (h.2 i h0 h1).1
theorem jRw.a {c n z i : Int} (h : jRw c n z) (h0 : 0 ≤ i) (h1 : i < n) : jAr 949 (c + 1 + i) 13 z := (h.2 i h0 h1).2
theorem sb_rk {b : Int} (hb : jSB b) : jRw (b + 19) 10 2 := by
  refine ⟨arS hb (by decide) (by decide) (by decide +kernel) (by decide) (by decide), fun i h0 h1 => ⟨?_, ?_⟩⟩
  · have h := tpb_rackrow hb h0 h1
    rwa [show b + (20 + i) = b + 19 + 1 + i by omega] at h
  · have h := arb_rackrow hb h0 h1
    rwa [show b + (20 + i) = b + 19 + 1 + i by omega] at h
theorem sb_bk {b : Int} (hb : jSB b) : jRw (b + 30) 6 301 := by
  refine ⟨arS hb (by decide) (by decide) (by decide +kernel) (by decide) (by decide), fun i h0 h1 => ⟨?_, ?_⟩⟩
  · have h := tpb_bookrow hb h0 h1
    rwa [show b + (31 + i) = b + 30 + 1 + i by omega] at h
  · have h := arb_bookrow hb h0 h1
    rwa [show b + (31 + i) = b + 30 + 1 + i by omega] at h
theorem sb_hd {b : Int} (hb : jSB b) : jRw (b + 37) 4 5 := by
  refine ⟨arS hb (by decide) (by decide) (by decide +kernel) (by decide) (by decide), fun i h0 h1 => ⟨?_, ?_⟩⟩
  · have h := tpb_handrow hb h0 h1
    rwa [show b + (38 + i) = b + 37 + 1 + i by omega] at h
  · have h := arb_handrow hb h0 h1
    rwa [show b + (38 + i) = b + 37 + 1 + i by omega] at h
theorem sb_ls {b : Int} (hb : jSB b) : jRw (b + 42) 12 2 := by
  refine ⟨arS hb (by decide) (by decide) (by decide +kernel) (by decide) (by decide), fun i h0 h1 => ⟨?_, ?_⟩⟩
  · have h := tpb_listrow hb h0 h1
    rwa [show b + (43 + i) = b + 42 + 1 + i by omega] at h
  · have h := arb_listrow hb h0 h1
    rwa [show b + (43 + i) = b + 42 + 1 + i by omega] at h
theorem l_copyRows {X : jX} {c d n z : Int} {M : jM} {Q : Int → jM → Prop} (hL : jRw c n z) (hD : jRw d n z) (hz : 0 ≤ z) (hn : 0 ≤ n) (hx : c + n < d ∨ d + n < c) (h : Q 0 (mv M (fun k j => c + 1 ≤ k ∧ k < c + 1 + n ∧ 0 ≤ j ∧ j < z) (c - d))) : ∀ (f : Nat) (ii : Int), 0 ≤ ii → ii + f = n → jE X yX8_copyRows cX8_copyRows 3 none 1 Q (mv M (fun k j => c + 1 ≤ k ∧ k < c + 1 + ii ∧ 0 ≤ j ∧ j < z) (c - d)) 2 [(0, jR d), (1, jR c), (2, jI ii)] [] := by
  intro f
  have hn9 := hL.1.2.2.2.2
  induction f with
  | zero =>
    intro ii h0 hi
    have e : ii = n := by omega
    subst e
    refine e_iload_n (i := 2) 3 dX8_copyRows_2 rfl rfl rfl ?_
    refine e_aload_n (i := 1) 4 dX8_copyRows_3 rfl rfl rfl ?_
    refine e_alen 5 dX8_copyRows_4 hL.ar (by decide) rfl ?_
    refine e_icmp_ge 8 29 dX8_copyRows_5 (by omega) (by omega) (by decide) rfl (fun b5 => ?_) (fun b5 => ?_)
    · skip
      refine e_vret dX8_copyRows_29 ?_
      exact h
    · omega
  | succ f ih =>
    intro ii h0 hi
    refine e_iload_n (i := 2) 3 dX8_copyRows_2 rfl rfl rfl ?_
    refine e_aload_n (i := 1) 4 dX8_copyRows_3 rfl rfl rfl ?_
    refine e_alen 5 dX8_copyRows_4 hL.ar (by decide) rfl ?_
    refine e_icmp_ge 8 29 dX8_copyRows_5 (by omega) (by omega) (by decide) rfl (fun b5 => ?_) (fun b5 => ?_)
    · omega
    · skip
      refine e_aload_n (i := 0) 9 dX8_copyRows_8 rfl rfl rfl ?_
      refine e_iload_n (i := 2) 10 dX8_copyRows_9 rfl rfl rfl ?_
      refine e_aaldi 11 dX8_copyRows_10 hD.ar (by omega) (by omega) (hD.t (by omega) (by omega)) rfl ?_
      refine e_iconst 12 dX8_copyRows_11 rfl ?_
      refine e_aload_n (i := 1) 13 dX8_copyRows_12 rfl rfl rfl ?_
      refine e_iload_n (i := 2) 14 dX8_copyRows_13 rfl rfl rfl ?_
      refine e_aaldi 15 dX8_copyRows_14 hL.ar (by omega) (by omega) (hL.t (by omega) (by omega)) rfl ?_
      refine e_iconst 16 dX8_copyRows_15 rfl ?_
      refine e_aload_n (i := 1) 17 dX8_copyRows_16 rfl rfl rfl ?_
      refine e_iload_n (i := 2) 18 dX8_copyRows_17 rfl rfl rfl ?_
      refine e_aaldi 19 dX8_copyRows_18 hL.ar (by omega) (by omega) (hL.t (by omega) (by omega)) rfl ?_
      refine e_alen 20 dX8_copyRows_19 (hL.a (by omega) (by omega)) (by decide) rfl ?_
      refine e_copy 23 wd_1260 dX8_copyRows_20 (hD.a (by omega) (by omega)) (hL.a (by omega) (by omega)) (by omega) rfl (Nat.le_of_ble_eq_true rfl) (jroom (by decide)) rfl ?_
      refine e_iinc (lsn := [(2, _), (0, _), (1, _)]) 26 dX8_copyRows_23 rfl (by decide) rfl rfl ?_
      refine e_goto 2 dX8_copyRows_26 (by decide) ?_
      refine e_ls (ls2 := [(0, _), (1, _), (2, _)]) rfl ?_
      rw [show c + 1 + ii - (d + 1 + ii) = c - d by omega, mv_mv (fun k j a b => by omega)]
      have e := ih (ii + 1) (by omega) (by omega)
      refine Eq.subst (motive := fun x => jE X yX8_copyRows cX8_copyRows 3 none 1 Q x 2 [(0, jR d), (1, jR c), (2, jI (ii + 1))] []) (mv_cong (fun k j => ?_) rfl) e
      constructor <;> intro q <;> omega

theorem c_copyRows {c d n z : Int} {M : jM} {Q : Int → jM → Prop} (hL : jRw c n z) (hD : jRw d n z) (hz : 0 ≤ z) (hn : 0 ≤ n) (hx : c + n < d ∨ d + n < c) (h : Q 0 (mv M (fun k j => c + 1 ≤ k ∧ k < c + 1 + n ∧ 0 ≤ j ∧ j < z) (c - d))) : jCt yX8_copyRows cX8_copyRows 3 none 1 [jR d, jR c] M Q := by
  refine jCt_of mt_yX8_copyRows (Nat.le_of_ble_eq_true rfl) (fun X => ?_)
  refine e_iconst 1 dX8_copyRows_0 rfl ?_
  refine e_istore_n (i := 2) (lsn := [(2, _), (0, _), (1, _)]) 2 dX8_copyRows_1 rfl (by decide) rfl rfl ?_
  refine e_ls (ls2 := [(0, _), (1, _), (2, _)]) rfl ?_
  have e := l_copyRows (X := X) hL hD hz hn hx h n.toNat 0 (by omega) (by omega)
  refine Eq.subst (motive := fun x => jE X yX8_copyRows cX8_copyRows 3 none 1 Q x 2 [(0, jR d), (1, jR c), (2, jI 0)] []) ?_ e
  rw [mv_cong (S := fun _ _ => False) (e := c - d) (fun k j => by constructor <;> intro q <;> first | omega | exact q.elim) rfl, mv_nil]

theorem sb_far {b d : Int} (hb : jSB b) (hd : jSB d) (hne : b ≠ d) : b + 293 ≤ d ∨ d + 293 ≤ b := by
  rcases hb with h | h | h <;> rcases hd with g | g | g <;> omega
/-- of kinds, people, pledges, tickets so many are copied -/
def RTh (b nk np nl nt : Int) (k j : Int) : Prop := (k = b ∧ (j = 6 ∨ j = 8 ∨ j = 10 ∨ j = 12)) ∨ (b + 55 ≤ k ∧ k < b + 55 + nk ∧ 0 ≤ j ∧ j < 5) ∨ (b + 67 ≤ k ∧ k < b + 67 + np ∧ 0 ≤ j ∧ j < 5) ∨ (b + 83 ≤ k ∧ k < b + 83 + nl ∧ 0 ≤ j ∧ j < 13) ∨ (b + 143 ≤ k ∧ k < b + 143 + nt ∧ 0 ≤ j ∧ j < 4)
theorem l_things1 {X : jX} {b d : Int} {M : jM} {Q : Int → jM → Prop} (hb : jSB b) (hd : jSB d) (hne : b ≠ d) {R : Int → Int → Prop} (hm : 0 ≤ M d 6 ∧ M d 6 ≤ 12) (hbit : ∀ i, 0 ≤ i → i < M d 6 → M (d + (55 + i)) 4 = 0 ∨ M (d + (55 + i)) 4 = 1) (hRs : ∀ k j, (k < b ∨ b + 55 ≤ k) → ¬ R k j) (hR1 : R b 6) (h : jE X yX8_copyThings cX8_copyThings 3 none 2 Q (mv M (fun k j => R k j ∨ (b + 55 ≤ k ∧ k < b + 55 + M d 6 ∧ 0 ≤ j ∧ j < 5)) (b - d)) 39 [(0, jR b), (1, jR d)] []) : ∀ (f : Nat) (ii : Int), 0 ≤ ii → ii + f = M d 6 → jE X yX8_copyThings cX8_copyThings 3 none 2 Q (mv M (fun k j => R k j ∨ (b + 55 ≤ k ∧ k < b + 55 + ii ∧ 0 ≤ j ∧ j < 5)) (b - d)) 10 [(0, jR b), (1, jR d), (2, jI ii)] [] := by
  intro f
  have hf := sb_far hb hd hne
  have er : ∀ n : Int, mv M (fun k j => R k j ∨ (b + 55 ≤ k ∧ k < b + 55 + n ∧ 0 ≤ j ∧ j < 5)) (b - d) b 6 = M d 6 := fun n => by
    rw [mv_in (Or.inl hR1), show b - (b - d) = d by omega]
  induction f with
  | zero =>
    intro ii h0 hi
    have e : ii = M d 6 := by omega
    subst e
    refine e_iload_n (i := 2) 11 dX8_copyThings_10 rfl rfl rfl ?_
    refine e_aload_n (i := 0) 12 dX8_copyThings_11 rfl rfl rfl ?_
    refine e_geti (j := 6) 15 fl_8_99 dX8_copyThings_12 (sbo_at hb) (by decide) rfl rfl (fun r12 => ?_)
    rw [er] at r12 ⊢
    refine e_icmp_ge 18 39 dX8_copyThings_15 (by omega) (by omega) (by decide) rfl (fun b15 => ?_) (fun b15 => ?_)
    · skip
      refine e_ls (ls2 := [(0, _), (1, _)]) rfl ?_
      exact h
    · omega
  | succ f ih =>
    intro ii h0 hi
    refine e_iload_n (i := 2) 11 dX8_copyThings_10 rfl rfl rfl ?_
    refine e_aload_n (i := 0) 12 dX8_copyThings_11 rfl rfl rfl ?_
    refine e_geti (j := 6) 15 fl_8_99 dX8_copyThings_12 (sbo_at hb) (by decide) rfl rfl (fun r12 => ?_)
    rw [er] at r12 ⊢
    refine e_icmp_ge 18 39 dX8_copyThings_15 (by omega) (by omega) (by decide) rfl (fun b15 => ?_) (fun b15 => ?_)
    · omega
    · skip
      refine e_aload_n (i := 0) 19 dX8_copyThings_18 rfl rfl rfl ?_
      refine e_getr (j := 5) 22 fl_8_30 dX8_copyThings_19 (sbo_at hb) rfl rfl (sb_t5 hb) rfl ?_
      refine e_iload_n (i := 2) 23 dX8_copyThings_22 rfl rfl rfl ?_
      refine e_aald 24 dX8_copyThings_23 (sb_a15 hb) (by decide) (by omega) (by omega) (tpb_kind hb (by omega) (by omega)) rfl ?_
      refine e_aload_n (i := 1) 25 dX8_copyThings_24 rfl rfl rfl ?_
      refine e_getr (j := 5) 28 fl_8_30 dX8_copyThings_25 (sbo_at hd) rfl rfl (sb_t5 hd) rfl ?_
      refine e_iload_n (i := 2) 29 dX8_copyThings_28 rfl rfl rfl ?_
      refine e_aald 30 dX8_copyThings_29 (sb_a15 hd) (by decide) (by omega) (by omega) (tpb_kind hd (by omega) (by omega)) rfl ?_
      refine e_callV 33 mt_yX0_copyFrom mv_yX0_copyFrom wd_1237 (by decide) dX8_copyThings_30 (atb_kind hb (by omega) (by omega)) jc_0 rfl rfl rfl (Nat.le_of_ble_eq_true rfl) (jroom (by decide)) rfl (c_KindCp (atb_kind hb (by omega) (by omega)) (atb_kind hd (by omega) (by omega)) (by omega) (by rw [mv_out (fun q => q.elim (hRs _ _ (by omega)) (fun q => by omega))]; exact hbit ii (by omega) (by omega)) ?_)
      dsimp only [jpush]
      refine e_iinc (lsn := [(2, _), (0, _), (1, _)]) 36 dX8_copyThings_33 rfl (by decide) rfl rfl ?_
      refine e_goto 10 dX8_copyThings_36 (by decide) ?_
      refine e_ls (ls2 := [(0, _), (1, _), (2, _)]) rfl ?_
      rw [show b + (55 + ii) - (d + (55 + ii)) = b - d by omega, mv_mv (fun k j a q => q.elim (hRs _ _ (by omega)) (fun q => by omega))]
      have e := ih (ii + 1) (by omega) (by omega)
      refine Eq.subst (motive := fun x => jE X yX8_copyThings cX8_copyThings 3 none 2 Q x 10 [(0, jR b), (1, jR d), (2, jI (ii + 1))] []) (mv_cong (fun k j => ?_) rfl) e
      constructor
      · intro q
        rcases q with q | q
        · exact Or.inl (Or.inl q)
        · by_cases e : k = b + (55 + ii)
          · exact Or.inr ⟨e, by omega, by omega⟩
          · exact Or.inl (Or.inr (by omega))
      · intro q
        rcases q with (q | q) | q
        · exact Or.inl q
        · exact Or.inr (by omega)
        · exact Or.inr (by omega)

theorem l_things2 {X : jX} {b d : Int} {M : jM} {Q : Int → jM → Prop} (hb : jSB b) (hd : jSB d) (hne : b ≠ d) {R : Int → Int → Prop} (hm : 0 ≤ M d 8 ∧ M d 8 ≤ 16) (hRs : ∀ k j, (k < b ∨ b + 67 ≤ k) → ¬ R k j) (hR1 : R b 8) (h : jE X yX8_copyThings cX8_copyThings 3 none 2 Q (mv M (fun k j => R k j ∨ (b + 67 ≤ k ∧ k < b + 67 + M d 8 ∧ 0 ≤ j ∧ j < 5)) (b - d)) 78 [(0, jR b), (1, jR d)] []) : ∀ (f : Nat) (ii : Int), 0 ≤ ii → ii + f = M d 8 → jE X yX8_copyThings cX8_copyThings 3 none 2 Q (mv M (fun k j => R k j ∨ (b + 67 ≤ k ∧ k < b + 67 + ii ∧ 0 ≤ j ∧ j < 5)) (b - d)) 49 [(0, jR b), (1, jR d), (2, jI ii)] [] := by
  intro f
  have hf := sb_far hb hd hne
  have er : ∀ n : Int, mv M (fun k j => R k j ∨ (b + 67 ≤ k ∧ k < b + 67 + n ∧ 0 ≤ j ∧ j < 5)) (b - d) b 8 = M d 8 := fun n => by
    rw [mv_in (Or.inl hR1), show b - (b - d) = d by omega]
  induction f with
  | zero =>
    intro ii h0 hi
    have e : ii = M d 8 := by omega
    subst e
    refine e_iload_n (i := 2) 50 dX8_copyThings_49 rfl rfl rfl ?_
    refine e_aload_n (i := 0) 51 dX8_copyThings_50 rfl rfl rfl ?_
    refine e_geti (j := 8) 54 fl_8_105 dX8_copyThings_51 (sbo_at hb) (by decide) rfl rfl (fun r51 => ?_)
    rw [er] at r51 ⊢
    refine e_icmp_ge 57 78 dX8_copyThings_54 (by omega) (by omega) (by decide) rfl (fun b54 => ?_) (fun b54 => ?_)
    · skip
      refine e_ls (ls2 := [(0, _), (1, _)]) rfl ?_
      exact h
    · omega
  | succ f ih =>
    intro ii h0 hi
    refine e_iload_n (i := 2) 50 dX8_copyThings_49 rfl rfl rfl ?_
    refine e_aload_n (i := 0) 51 dX8_copyThings_50 rfl rfl rfl ?_
    refine e_geti (j := 8) 54 fl_8_105 dX8_copyThings_51 (sbo_at hb) (by decide) rfl rfl (fun r51 => ?_)
    rw [er] at r51 ⊢
    refine e_icmp_ge 57 78 dX8_copyThings_54 (by omega) (by omega) (by decide) rfl (fun b54 => ?_) (fun b54 => ?_)
    · omega
    · skip
      refine e_aload_n (i := 0) 58 dX8_copyThings_57 rfl rfl rfl ?_
      refine e_getr (j := 7) 61 fl_8_36 dX8_copyThings_58 (sbo_at hb) rfl rfl (sb_t7 hb) rfl ?_
      refine e_iload_n (i := 2) 62 dX8_copyThings_61 rfl rfl rfl ?_
      refine e_aald 63 dX8_copyThings_62 (sb_a16 hb) (by decide) (by omega) (by omega) (tpb_person hb (by omega) (by omega)) rfl ?_
      refine e_aload_n (i := 1) 64 dX8_copyThings_63 rfl rfl rfl ?_
      refine e_getr (j := 7) 67 fl_8_36 dX8_copyThings_64 (sbo_at hd) rfl rfl (sb_t7 hd) rfl ?_
      refine e_iload_n (i := 2) 68 dX8_copyThings_67 rfl rfl rfl ?_
      refine e_aald 69 dX8_copyThings_68 (sb_a16 hd) (by decide) (by omega) (by omega) (tpb_person hd (by omega) (by omega)) rfl ?_
      refine e_callV 72 mt_yX3_copyFrom mv_yX3_copyFrom wd_1241 (by decide) dX8_copyThings_69 (atb_person hb (by omega) (by omega)) jc_3 rfl rfl rfl (Nat.le_of_ble_eq_true rfl) (jroom (by decide)) rfl (c_PersonCp (atb_person hb (by omega) (by omega)) (atb_person hd (by omega) (by omega)) (by omega) ?_)
      dsimp only [jpush]
      refine e_iinc (lsn := [(2, _), (0, _), (1, _)]) 75 dX8_copyThings_72 rfl (by decide) rfl rfl ?_
      refine e_goto 49 dX8_copyThings_75 (by decide) ?_
      refine e_ls (ls2 := [(0, _), (1, _), (2, _)]) rfl ?_
      rw [show b + (67 + ii) - (d + (67 + ii)) = b - d by omega, mv_mv (fun k j a q => q.elim (hRs _ _ (by omega)) (fun q => by omega))]
      have e := ih (ii + 1) (by omega) (by omega)
      refine Eq.subst (motive := fun x => jE X yX8_copyThings cX8_copyThings 3 none 2 Q x 49 [(0, jR b), (1, jR d), (2, jI (ii + 1))] []) (mv_cong (fun k j => ?_) rfl) e
      constructor
      · intro q
        rcases q with q | q
        · exact Or.inl (Or.inl q)
        · by_cases e : k = b + (67 + ii)
          · exact Or.inr ⟨e, by omega, by omega⟩
          · exact Or.inl (Or.inr (by omega))
      · intro q
        rcases q with (q | q) | q
        · exact Or.inl q
        · exact Or.inr (by omega)
        · exact Or.inr (by omega)

theorem l_things3 {X : jX} {b d : Int} {M : jM} {Q : Int → jM → Prop} (hb : jSB b) (hd : jSB d) (hne : b ≠ d) {R : Int → Int → Prop} (hm : 0 ≤ M d 10 ∧ M d 10 ≤ 60) (hRs : ∀ k j, (k < b ∨ b + 83 ≤ k) → ¬ R k j) (hR1 : R b 10) (h : jE X yX8_copyThings cX8_copyThings 3 none 2 Q (mv M (fun k j => R k j ∨ (b + 83 ≤ k ∧ k < b + 83 + M d 10 ∧ 0 ≤ j ∧ j < 13)) (b - d)) 117 [(0, jR b), (1, jR d)] []) : ∀ (f : Nat) (ii : Int), 0 ≤ ii → ii + f = M d 10 → jE X yX8_copyThings cX8_copyThings 3 none 2 Q (mv M (fun k j => R k j ∨ (b + 83 ≤ k ∧ k < b + 83 + ii ∧ 0 ≤ j ∧ j < 13)) (b - d)) 88 [(0, jR b), (1, jR d), (2, jI ii)] [] := by
  intro f
  have hf := sb_far hb hd hne
  have er : ∀ n : Int, mv M (fun k j => R k j ∨ (b + 83 ≤ k ∧ k < b + 83 + n ∧ 0 ≤ j ∧ j < 13)) (b - d) b 10 = M d 10 := fun n => by
    rw [mv_in (Or.inl hR1), show b - (b - d) = d by omega]
  induction f with
  | zero =>
    intro ii h0 hi
    have e : ii = M d 10 := by omega
    subst e
    refine e_iload_n (i := 2) 89 dX8_copyThings_88 rfl rfl rfl ?_
    refine e_aload_n (i := 0) 90 dX8_copyThings_89 rfl rfl rfl ?_
    refine e_geti (j := 10) 93 fl_8_111 dX8_copyThings_90 (sbo_at hb) (by decide) rfl rfl (fun r90 => ?_)
    rw [er] at r90 ⊢
    refine e_icmp_ge 96 117 dX8_copyThings_93 (by omega) (by omega) (by decide) rfl (fun b93 => ?_) (fun b93 => ?_)
    · skip
      refine e_ls (ls2 := [(0, _), (1, _)]) rfl ?_
      exact h
    · omega
  | succ f ih =>
    intro ii h0 hi
    refine e_iload_n (i := 2) 89 dX8_copyThings_88 rfl rfl rfl ?_
    refine e_aload_n (i := 0) 90 dX8_copyThings_89 rfl rfl rfl ?_
    refine e_geti (j := 10) 93 fl_8_111 dX8_copyThings_90 (sbo_at hb) (by decide) rfl rfl (fun r90 => ?_)
    rw [er] at r90 ⊢
    refine e_icmp_ge 96 117 dX8_copyThings_93 (by omega) (by omega) (by decide) rfl (fun b93 => ?_) (fun b93 => ?_)
    · omega
    · skip
      refine e_aload_n (i := 0) 97 dX8_copyThings_96 rfl rfl rfl ?_
      refine e_getr (j := 9) 100 fl_8_42 dX8_copyThings_97 (sbo_at hb) rfl rfl (sb_t9 hb) rfl ?_
      refine e_iload_n (i := 2) 101 dX8_copyThings_100 rfl rfl rfl ?_
      refine e_aald 102 dX8_copyThings_101 (sb_a17 hb) (by decide) (by omega) (by omega) (tpb_pledge hb (by omega) (by omega)) rfl ?_
      refine e_aload_n (i := 1) 103 dX8_copyThings_102 rfl rfl rfl ?_
      refine e_getr (j := 9) 106 fl_8_42 dX8_copyThings_103 (sbo_at hd) rfl rfl (sb_t9 hd) rfl ?_
      refine e_iload_n (i := 2) 107 dX8_copyThings_106 rfl rfl rfl ?_
      refine e_aald 108 dX8_copyThings_107 (sb_a17 hd) (by decide) (by omega) (by omega) (tpb_pledge hd (by omega) (by omega)) rfl ?_
      refine e_callV 111 mt_yX5_copyFrom mv_yX5_copyFrom wd_1245 (by decide) dX8_copyThings_108 (atb_pledge hb (by omega) (by omega)) jc_5 rfl rfl rfl (Nat.le_of_ble_eq_true rfl) (jroom (by decide)) rfl (c_PledgeCp (atb_pledge hb (by omega) (by omega)) (atb_pledge hd (by omega) (by omega)) (by omega) ?_)
      dsimp only [jpush]
      refine e_iinc (lsn := [(2, _), (0, _), (1, _)]) 114 dX8_copyThings_111 rfl (by decide) rfl rfl ?_
      refine e_goto 88 dX8_copyThings_114 (by decide) ?_
      refine e_ls (ls2 := [(0, _), (1, _), (2, _)]) rfl ?_
      rw [show b + (83 + ii) - (d + (83 + ii)) = b - d by omega, mv_mv (fun k j a q => q.elim (hRs _ _ (by omega)) (fun q => by omega))]
      have e := ih (ii + 1) (by omega) (by omega)
      refine Eq.subst (motive := fun x => jE X yX8_copyThings cX8_copyThings 3 none 2 Q x 88 [(0, jR b), (1, jR d), (2, jI (ii + 1))] []) (mv_cong (fun k j => ?_) rfl) e
      constructor
      · intro q
        rcases q with q | q
        · exact Or.inl (Or.inl q)
        · by_cases e : k = b + (83 + ii)
          · exact Or.inr ⟨e, by omega, by omega⟩
          · exact Or.inl (Or.inr (by omega))
      · intro q
        rcases q with (q | q) | q
        · exact Or.inl q
        · exact Or.inr (by omega)
        · exact Or.inr (by omega)

theorem l_things4 {X : jX} {b d : Int} {M : jM} {Q : Int → jM → Prop} (hb : jSB b) (hd : jSB d) (hne : b ≠ d) {R : Int → Int → Prop} (hm : 0 ≤ M d 12 ∧ M d 12 ≤ 150) (hbit : ∀ i, 0 ≤ i → i < M d 12 → M (d + (143 + i)) 3 = 0 ∨ M (d + (143 + i)) 3 = 1) (hRs : ∀ k j, (k < b ∨ b + 143 ≤ k) → ¬ R k j) (hR1 : R b 12) (h : jE X yX8_copyThings cX8_copyThings 3 none 2 Q (mv M (fun k j => R k j ∨ (b + 143 ≤ k ∧ k < b + 143 + M d 12 ∧ 0 ≤ j ∧ j < 4)) (b - d)) 156 [(0, jR b), (1, jR d)] []) : ∀ (f : Nat) (ii : Int), 0 ≤ ii → ii + f = M d 12 → jE X yX8_copyThings cX8_copyThings 3 none 2 Q (mv M (fun k j => R k j ∨ (b + 143 ≤ k ∧ k < b + 143 + ii ∧ 0 ≤ j ∧ j < 4)) (b - d)) 127 [(0, jR b), (1, jR d), (2, jI ii)] [] := by
  intro f
  have hf := sb_far hb hd hne
  have er : ∀ n : Int, mv M (fun k j => R k j ∨ (b + 143 ≤ k ∧ k < b + 143 + n ∧ 0 ≤ j ∧ j < 4)) (b - d) b 12 = M d 12 := fun n => by
    rw [mv_in (Or.inl hR1), show b - (b - d) = d by omega]
  induction f with
  | zero =>
    intro ii h0 hi
    have e : ii = M d 12 := by omega
    subst e
    refine e_iload_n (i := 2) 128 dX8_copyThings_127 rfl rfl rfl ?_
    refine e_aload_n (i := 0) 129 dX8_copyThings_128 rfl rfl rfl ?_
    refine e_geti (j := 12) 132 fl_8_117 dX8_copyThings_129 (sbo_at hb) (by decide) rfl rfl (fun r129 => ?_)
    rw [er] at r129 ⊢
    refine e_icmp_ge 135 156 dX8_copyThings_132 (by omega) (by omega) (by decide) rfl (fun b132 => ?_) (fun b132 => ?_)
    · skip
      refine e_ls (ls2 := [(0, _), (1, _)]) rfl ?_
      exact h
    · omega
  | succ f ih =>
    intro ii h0 hi
    refine e_iload_n (i := 2) 128 dX8_copyThings_127 rfl rfl rfl ?_
    refine e_aload_n (i := 0) 129 dX8_copyThings_128 rfl rfl rfl ?_
    refine e_geti (j := 12) 132 fl_8_117 dX8_copyThings_129 (sbo_at hb) (by decide) rfl rfl (fun r129 => ?_)
    rw [er] at r129 ⊢
    refine e_icmp_ge 135 156 dX8_copyThings_132 (by omega) (by omega) (by decide) rfl (fun b132 => ?_) (fun b132 => ?_)
    · omega
    · skip
      refine e_aload_n (i := 0) 136 dX8_copyThings_135 rfl rfl rfl ?_
      refine e_getr (j := 11) 139 fl_8_48 dX8_copyThings_136 (sbo_at hb) rfl rfl (sb_t11 hb) rfl ?_
      refine e_iload_n (i := 2) 140 dX8_copyThings_139 rfl rfl rfl ?_
      refine e_aald 141 dX8_copyThings_140 (sb_a18 hb) (by decide) (by omega) (by omega) (tpb_ticket hb (by omega) (by omega)) rfl ?_
      refine e_aload_n (i := 1) 142 dX8_copyThings_141 rfl rfl rfl ?_
      refine e_getr (j := 11) 145 fl_8_48 dX8_copyThings_142 (sbo_at hd) rfl rfl (sb_t11 hd) rfl ?_
      refine e_iload_n (i := 2) 146 dX8_copyThings_145 rfl rfl rfl ?_
      refine e_aald 147 dX8_copyThings_146 (sb_a18 hd) (by decide) (by omega) (by omega) (tpb_ticket hd (by omega) (by omega)) rfl ?_
      refine e_callV 150 mt_yX10_copyFrom mv_yX10_copyFrom wd_1249 (by decide) dX8_copyThings_147 (atb_ticket hb (by omega) (by omega)) jc_10 rfl rfl rfl (Nat.le_of_ble_eq_true rfl) (jroom (by decide)) rfl (c_TicketCp (atb_ticket hb (by omega) (by omega)) (atb_ticket hd (by omega) (by omega)) (by omega) (by rw [mv_out (fun q => q.elim (hRs _ _ (by omega)) (fun q => by omega))]; exact hbit ii (by omega) (by omega)) ?_)
      dsimp only [jpush]
      refine e_iinc (lsn := [(2, _), (0, _), (1, _)]) 153 dX8_copyThings_150 rfl (by decide) rfl rfl ?_
      refine e_goto 127 dX8_copyThings_153 (by decide) ?_
      refine e_ls (ls2 := [(0, _), (1, _), (2, _)]) rfl ?_
      rw [show b + (143 + ii) - (d + (143 + ii)) = b - d by omega, mv_mv (fun k j a q => q.elim (hRs _ _ (by omega)) (fun q => by omega))]
      have e := ih (ii + 1) (by omega) (by omega)
      refine Eq.subst (motive := fun x => jE X yX8_copyThings cX8_copyThings 3 none 2 Q x 127 [(0, jR b), (1, jR d), (2, jI (ii + 1))] []) (mv_cong (fun k j => ?_) rfl) e
      constructor
      · intro q
        rcases q with q | q
        · exact Or.inl (Or.inl q)
        · by_cases e : k = b + (143 + ii)
          · exact Or.inr ⟨e, by omega, by omega⟩
          · exact Or.inl (Or.inr (by omega))
      · intro q
        rcases q with (q | q) | q
        · exact Or.inl q
        · exact Or.inr (by omega)
        · exact Or.inr (by omega)

theorem c_copyThings {b d : Int} {M : jM} {Q : Int → jM → Prop} (hb : jSB b) (hd : jSB d) (hne : b ≠ d) (hk : 0 ≤ M d 6 ∧ M d 6 ≤ 12) (hp : 0 ≤ M d 8 ∧ M d 8 ≤ 16) (hl : 0 ≤ M d 10 ∧ M d 10 ≤ 60) (ht : 0 ≤ M d 12 ∧ M d 12 ≤ 150) (hkb : ∀ i, 0 ≤ i → i < M d 6 → M (d + (55 + i)) 4 = 0 ∨ M (d + (55 + i)) 4 = 1) (htb : ∀ i, 0 ≤ i → i < M d 12 → M (d + (143 + i)) 3 = 0 ∨ M (d + (143 + i)) 3 = 1) (h : Q 0 (mv M (RTh b (M d 6) (M d 8) (M d 10) (M d 12)) (b - d))) : jCt yX8_copyThings cX8_copyThings 3 none 2 [jR b, jR d] M Q := by
  refine jCt_of mt_yX8_copyThings (Nat.le_of_ble_eq_true rfl) (fun X => ?_)
  have hf := sb_far hb hd hne
  refine e_aload_n (i := 0) 1 dX8_copyThings_0 rfl rfl rfl ?_
  refine e_aload_n (i := 1) 2 dX8_copyThings_1 rfl rfl rfl ?_
  refine e_geti (j := 6) 5 fl_8_99 dX8_copyThings_2 (sbo_at hd) (by decide) rfl rfl (fun r2 => ?_)
  refine e_puti (j := 6) 8 fl_8_99 dX8_copyThings_5 (sbo_at hb) rfl rfl rfl (by omega) rfl ?_
  refine e_iconst 9 dX8_copyThings_8 rfl ?_
  refine e_istore_n (i := 2) (lsn := [(2, _), (0, _), (1, _)]) 10 dX8_copyThings_9 rfl (by decide) rfl rfl ?_
  refine e_ls (ls2 := [(0, _), (1, _), (2, _)]) rfl ?_
  rw [mv_set (k0 := d) rfl]
  refine Eq.subst (motive := fun x => jE X yX8_copyThings cX8_copyThings 3 none 2 Q x 10 [(0, jR b), (1, jR d), (2, jI 0)] []) (mv_cong (R := fun k j => (k = b ∧ j = 6) ∨ (b + 55 ≤ k ∧ k < b + 55 + 0 ∧ 0 ≤ j ∧ j < 5)) (fun k j => ?_) rfl) (l_things1 (R := fun k j => (k = b ∧ j = 6)) hb hd hne hk hkb (fun k j a => by omega) (by omega) ?_ (M d 6).toNat 0 (by omega) (by omega))
  · constructor <;> intro q <;> omega
  · skip
    refine e_aload_n (i := 0) 40 dX8_copyThings_39 rfl rfl rfl ?_
    refine e_aload_n (i := 1) 41 dX8_copyThings_40 rfl rfl rfl ?_
    refine e_geti (j := 8) 44 fl_8_105 dX8_copyThings_41 (sbo_at hd) (by decide) rfl rfl (fun r41 => ?_)
    simp (disch := omega) only [jset_k, jset_j, jset_same, true_and, and_true, mv_out] at r41 ⊢
    refine e_puti (j := 8) 47 fl_8_105 dX8_copyThings_44 (sbo_at hb) rfl rfl rfl (by omega) rfl ?_
    refine e_iconst 48 dX8_copyThings_47 rfl ?_
    refine e_istore_n (i := 2) (lsn := [(2, _), (0, _), (1, _)]) 49 dX8_copyThings_48 rfl (by decide) rfl rfl ?_
    refine e_ls (ls2 := [(0, _), (1, _), (2, _)]) rfl ?_
    rw [mv_set (M := mv M _ _) (k0 := d) (by rw [mv_out (by omega)]), mv_mv (fun k j a q => by omega)]
    refine Eq.subst (motive := fun x => jE X yX8_copyThings cX8_copyThings 3 none 2 Q x 49 [(0, jR b), (1, jR d), (2, jI 0)] []) (mv_cong (R := fun k j => (((k = b ∧ j = 6) ∨ (b + 55 ≤ k ∧ k < b + 55 + M d 6 ∧ 0 ≤ j ∧ j < 5)) ∨ (k = b ∧ j = 8)) ∨ (b + 67 ≤ k ∧ k < b + 67 + 0 ∧ 0 ≤ j ∧ j < 5)) (fun k j => ?_) rfl) (l_things2 (R := fun k j => (((k = b ∧ j = 6) ∨ (b + 55 ≤ k ∧ k < b + 55 + M d 6 ∧ 0 ≤ j ∧ j < 5)) ∨ (k = b ∧ j = 8))) hb hd hne hp (fun k j a => by omega) (by omega) ?_ (M d 8).toNat 0 (by omega) (by omega))
    · constructor <;> intro q <;> omega
    · skip
      refine e_aload_n (i := 0) 79 dX8_copyThings_78 rfl rfl rfl ?_
      refine e_aload_n (i := 1) 80 dX8_copyThings_79 rfl rfl rfl ?_
      refine e_geti (j := 10) 83 fl_8_111 dX8_copyThings_80 (sbo_at hd) (by decide) rfl rfl (fun r80 => ?_)
      simp (disch := omega) only [jset_k, jset_j, jset_same, true_and, and_true, mv_out] at r80 ⊢
      refine e_puti (j := 10) 86 fl_8_111 dX8_copyThings_83 (sbo_at hb) rfl rfl rfl (by omega) rfl ?_
      refine e_iconst 87 dX8_copyThings_86 rfl ?_
      refine e_istore_n (i := 2) (lsn := [(2, _), (0, _), (1, _)]) 88 dX8_copyThings_87 rfl (by decide) rfl rfl ?_
      refine e_ls (ls2 := [(0, _), (1, _), (2, _)]) rfl ?_
      rw [mv_set (M := mv M _ _) (k0 := d) (by rw [mv_out (by omega)]), mv_mv (fun k j a q => by omega)]
      refine Eq.subst (motive := fun x => jE X yX8_copyThings cX8_copyThings 3 none 2 Q x 88 [(0, jR b), (1, jR d), (2, jI 0)] []) (mv_cong (R := fun k j => (((((k = b ∧ j = 6) ∨ (b + 55 ≤ k ∧ k < b + 55 + M d 6 ∧ 0 ≤ j ∧ j < 5)) ∨ (k = b ∧ j = 8)) ∨ (b + 67 ≤ k ∧ k < b + 67 + M d 8 ∧ 0 ≤ j ∧ j < 5)) ∨ (k = b ∧ j = 10)) ∨ (b + 83 ≤ k ∧ k < b + 83 + 0 ∧ 0 ≤ j ∧ j < 13)) (fun k j => ?_) rfl) (l_things3 (R := fun k j => (((((k = b ∧ j = 6) ∨ (b + 55 ≤ k ∧ k < b + 55 + M d 6 ∧ 0 ≤ j ∧ j < 5)) ∨ (k = b ∧ j = 8)) ∨ (b + 67 ≤ k ∧ k < b + 67 + M d 8 ∧ 0 ≤ j ∧ j < 5)) ∨ (k = b ∧ j = 10))) hb hd hne hl (fun k j a => by omega) (by omega) ?_ (M d 10).toNat 0 (by omega) (by omega))
      · constructor <;> intro q <;> omega
      · skip
        refine e_aload_n (i := 0) 118 dX8_copyThings_117 rfl rfl rfl ?_
        refine e_aload_n (i := 1) 119 dX8_copyThings_118 rfl rfl rfl ?_
        refine e_geti (j := 12) 122 fl_8_117 dX8_copyThings_119 (sbo_at hd) (by decide) rfl rfl (fun r119 => ?_)
        simp (disch := omega) only [jset_k, jset_j, jset_same, true_and, and_true, mv_out] at r119 ⊢
        refine e_puti (j := 12) 125 fl_8_117 dX8_copyThings_122 (sbo_at hb) rfl rfl rfl (by omega) rfl ?_
        refine e_iconst 126 dX8_copyThings_125 rfl ?_
        refine e_istore_n (i := 2) (lsn := [(2, _), (0, _), (1, _)]) 127 dX8_copyThings_126 rfl (by decide) rfl rfl ?_
        refine e_ls (ls2 := [(0, _), (1, _), (2, _)]) rfl ?_
        rw [mv_set (M := mv M _ _) (k0 := d) (by rw [mv_out (by omega)]), mv_mv (fun k j a q => by omega)]
        refine Eq.subst (motive := fun x => jE X yX8_copyThings cX8_copyThings 3 none 2 Q x 127 [(0, jR b), (1, jR d), (2, jI 0)] []) (mv_cong (R := fun k j => (((((((k = b ∧ j = 6) ∨ (b + 55 ≤ k ∧ k < b + 55 + M d 6 ∧ 0 ≤ j ∧ j < 5)) ∨ (k = b ∧ j = 8)) ∨ (b + 67 ≤ k ∧ k < b + 67 + M d 8 ∧ 0 ≤ j ∧ j < 5)) ∨ (k = b ∧ j = 10)) ∨ (b + 83 ≤ k ∧ k < b + 83 + M d 10 ∧ 0 ≤ j ∧ j < 13)) ∨ (k = b ∧ j = 12)) ∨ (b + 143 ≤ k ∧ k < b + 143 + 0 ∧ 0 ≤ j ∧ j < 4)) (fun k j => ?_) rfl) (l_things4 (R := fun k j => (((((((k = b ∧ j = 6) ∨ (b + 55 ≤ k ∧ k < b + 55 + M d 6 ∧ 0 ≤ j ∧ j < 5)) ∨ (k = b ∧ j = 8)) ∨ (b + 67 ≤ k ∧ k < b + 67 + M d 8 ∧ 0 ≤ j ∧ j < 5)) ∨ (k = b ∧ j = 10)) ∨ (b + 83 ≤ k ∧ k < b + 83 + M d 10 ∧ 0 ≤ j ∧ j < 13)) ∨ (k = b ∧ j = 12))) hb hd hne ht htb (fun k j a => by omega) (by omega) ?_ (M d 12).toNat 0 (by omega) (by omega))
        · constructor <;> intro q <;> omega
        · skip
          refine e_vret dX8_copyThings_156 ?_
          refine Eq.subst (motive := fun x => Q 0 x) (mv_cong (fun k j => ?_) rfl) h
          unfold RTh
          constructor <;> intro q <;> omega

end DEV58
