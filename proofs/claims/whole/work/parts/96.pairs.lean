/-! BEST *** the least cost and the first racks are the least key *** no program *** -/
abbrev costY (w steps y : Int → Int) (n : Nat) : Int := totS (fun j => w j * steps (y j)) n
def LexLe (y z : Int → Int) (n : Nat) : Prop := (∀ j : Int, 0 ≤ j → j < n → y j = z j) ∨ ∃ i : Int, (0 ≤ i ∧ i < n) ∧ (∀ j : Int, 0 ≤ j → j < i → y j = z j) ∧ y i < z i
def LexMin (sz w room steps : Int → Int) (n R : Nat) (y : Int → Int) : Prop := FeasS sz room y n R (2 ^ n - 1) ∧ ∀ z : Int → Int, FeasS sz room z n R (2 ^ n - 1) → costY w steps y n < costY w steps z n ∨ (costY w steps y n = costY w steps z n ∧ LexLe y z n)
theorem full_tb {n j : Nat} : (2 ^ n - 1).testBit j = true ↔ j < n := by
  rw [Nat.testBit_two_pow_sub_one]
  exact decide_eq_true_iff
theorem FeasS.dig {sz room y : Int → Int} {n R : Nat} (h : FeasS sz room y n R (2 ^ n - 1)) (hR : R ≤ 10) : Dig y n := fun j a b => by
  have q := h.1 j.toNat (full_tb.mpr (by omega))
  rw [show ((j.toNat : Nat) : Int) = j by omega] at q
  omega
theorem key_full {w steps y : Int → Int} {n : Nat} : sumS (itemK w steps y) n (2 ^ n - 1) = 10000000 * costY w steps y n + totS (fun j => y j * FIG j) n := by
  rw [sumS_all n (fun j hj => full_tb.mpr hj), tot_key]
theorem tot_cong {f g : Int → Int} : ∀ n : Nat, (∀ j : Int, 0 ≤ j → j < n → f j = g j) → totS f n = totS g n
  | 0, _ => rfl
  | n + 1, h => by rw [totS, totS, tot_cong n (fun j a b => h j a (by omega)), h n (by omega) (by omega)]
theorem LexMin.key {sz w room steps y : Int → Int} {n R : Nat} (hn : 1 ≤ n ∧ n ≤ 7) (hR : R ≤ 10) (h : LexMin sz w room steps n R y) : KeyMin sz w room steps n R y := by
  refine ⟨h.1, fun z hz => ?_⟩
  rw [key_full, key_full]
  have a := figs_lt hn (h.1.dig hR)
  have b := figs_lt hn (hz.dig hR)
  rcases h.2 z hz with c | ⟨c, d⟩
  · omega
  · rcases d with d | ⟨i, d, e, f⟩
    · rw [tot_cong (f := fun j => y j * FIG j) (g := fun j => z j * FIG j) n (fun j p q => by simp only [d j p q])]
      omega
    · have := figs_lex hn (h.1.dig hR) (hz.dig hR) d e f
      omega
theorem cost_nn {w steps y : Int → Int} : ∀ n : Nat, (∀ j : Int, 0 ≤ j → j < n → 0 ≤ w j ∧ 0 ≤ steps (y j)) → 0 ≤ costY w steps y n
  | 0, _ => Int.le_refl _
  | n + 1, h => by
    have ih := cost_nn n (fun j a b => h j a (by omega))
    have q := h n (by omega) (by omega)
    have m := Int.mul_nonneg q.1 q.2
    unfold costY at ih ⊢
    rw [totS]
    omega
theorem best_val {sz w room steps y : Int → Int} {n R : Nat} {v i : Int} (hn : 1 ≤ n ∧ n ≤ 7) (hR : R ≤ 10) (h : LexMin sz w room steps n R y) (hw : ∀ j : Int, 0 ≤ j → j < n → 0 ≤ w j ∧ 0 ≤ steps (y j)) (hv : LB (sumS sz n) (sumS w n) (sumS FIG n) room steps R (2 ^ n - 1) v) : bestAns v n i = if i = -1 then costY w steps y n else if 0 ≤ i ∧ i < n then y i else -1 := by
  have k := lb_some hv (h.key hn hR)
  have a := figs_lt hn (h.1.dig hR)
  have c := cost_nn n hw
  unfold bestAns
  rw [key_full] at k
  by_cases e : i = -1
  · rw [if_neg (by omega), if_pos e, if_pos e, k.2]
    omega
  · by_cases e2 : 0 ≤ i ∧ i < n
    · rw [if_neg (by omega), if_neg e, if_neg e, if_pos e2, k.2]
      exact figs_dig hn (h.1.dig hR) c e2
    · rw [if_pos (by omega), if_neg e, if_neg e2]
theorem best_none {sz w room steps : Int → Int} {n R : Nat} {v i : Int} (hz : ∀ z, ¬ FeasS sz room z n R (2 ^ n - 1)) (hv : LB (sumS sz n) (sumS w n) (sumS FIG n) room steps R (2 ^ n - 1) v) : bestAns v n i = -1 := by
  unfold bestAns
  rw [if_pos (Or.inl (lb_none hv hz))]
