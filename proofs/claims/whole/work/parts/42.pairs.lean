/-! PAIRS: pledge -/
theorem Ceq.begin {X Y : jM} (h : Ceq X Y) {n k p l w n2 k2 p2 l2 w2 : Int} (e1 : n = n2) (e2 : k = k2) (e3 : p = p2) (e4 : l = l2) (e5 : w = w2) : Ceq (cBegin X n k p l w) (cBegin Y n2 k2 p2 l2 w2) := by
  subst e1 e2 e3 e4 e5
  unfold cBegin
  exact ((((((((((((h.set rfl rfl rfl).set rfl rfl rfl).set rfl rfl rfl).set rfl rfl rfl).set rfl rfl rfl).set rfl rfl rfl).set rfl rfl rfl).set rfl rfl rfl).set rfl rfl rfl).set rfl rfl rfl).set rfl rfl rfl).set rfl rfl rfl).set rfl rfl rfl
theorem cBegin_hi {M : jM} {n k p l w q : Int} (hn : 0 ≤ n ∧ n < 60) (h : 294 ≤ q) : cBegin M n k p l w q = M q := funext fun j => cBegin_o hn (by omega)
def aBegin (a : Int → Int) (n k p l w : Int) : Int → Int := rset (rset (rset (rset (rset (rset (rset (rset (rset (rset (rset (rset a (710 + n) k) (770 + n) p) (830 + n) l) (890 + n) w) (1130 + n) w) (950 + n) (-1)) (1010 + n) 0) (1070 + n) 0) (1190 + n) (-1)) (1250 + n) 0) (3775 + n) 0) (3835 + n) 0
theorem rBegin_929 {M : jM} {n k p l w : Int} : rBegin M n k p l w 929 = aBegin (M 929) n k p l w := by
  unfold rBegin aBegin
  simp only [jset_929]
theorem rBegin_row {M : jM} {n k p l w q : Int} (h : q ≠ 929) : rBegin M n k p l w q = M q := by
  unfold rBegin
  simp only [jset_row h]
theorem Ceq.lb {X Y : jM} (h : Ceq X Y) {n k p l w : Int} : Ceq (rBegin X n k p l w) Y := fun q e => (rBegin_row e).trans (h q e)
theorem Ceq.rb {X Y : jM} (h : Ceq X Y) {n k p l w : Int} : Ceq X (rBegin Y n k p l w) := fun q e => (h q e).trans (rBegin_row e).symm
/-- what a pledge more leaves keeps the invariant -/
theorem step_lend {M : jM} (hI : Inv M) {k p l : Int} (hk : 0 ≤ k ∧ k < M 929 582) (hp : 0 ≤ p ∧ p < M 929 643) (hl : 1 ≤ l ∧ l ≤ 999) (hf : M 929 709 < 60) (ht : M 929 1310 < 150) : Inv (rLend (cLend M k p l) k p l) := by
  have hC := hI.cr
  have hn := hC.cnt
  have hg := hC.rng
  have hu := hC.rule
  have hq := hC.pers hp.1 hp.2
  have hb := hC.bk (w := M 929 708) (by omega) (by omega)
  have q0 : M (32 + 0) (M 1 4) = M 929 (1782 + M 929 708) := by rw [hn.2.2.2.2.2.2.1]; exact hb.1
  have q2 : M (32 + 2) (M 1 4) = M 929 (2384 + M 929 708) := by rw [hn.2.2.2.2.2.2.1]; exact hb.2.2.1
  have hA : cLend M k p l 929 = M 929 := by
    unfold cLend
    simp (disch := first | omega | (simp (disch := omega) only [jset_k, jset_j, jset_same, cBegin_o]; omega)) only [cGive_hi, cBegin_hi, jset_row]
  have s1 := step_begin hI hk hp hl hf
  have s2 := step_purse s1 (q := p) (v := w32 (M 929 (692 + p) + (2 * l - M 929 26))) (by (try simp (disch := omega) only [jset_k, jset_j, jset_same, true_and, and_true, cKill_o, rKill_o, rBegin, cBegin_o]); try omega) rfl
  have s3 := step_book2 s2 (b := 0) (w := M 929 708) (o := 1782) (v := w32 (M 929 (1782 + M 929 708) + 2 * l)) (by omega) (by omega) (by omega) rfl
  have s4 := step_book2 s3 (b := 2) (w := M 929 708) (o := 2384) (v := w32 (M 929 (2384 + M 929 708) + 1)) (by omega) (by omega) (by omega) rfl
  have s5 := step_give s4 (p := M 929 709) (q := p) (by (try simp (disch := omega) only [jset_k, jset_j, jset_same, true_and, and_true, cKill_o, rKill_o, rBegin, cBegin_o]); try omega) (by (try simp (disch := omega) only [jset_k, jset_j, jset_same, true_and, and_true, cKill_o, rKill_o, rBegin, cBegin_o]); try omega) (by (try simp (disch := omega) only [jset_k, jset_j, jset_same, true_and, and_true, cKill_o, rKill_o, rBegin, cBegin_o]); try omega)
  refine inv_eq s5 ?_ ?_
  · unfold rLend cLend
    repeat (first | exact Ceq.rf | refine Ceq.lg ?_ | refine Ceq.lb ?_ | refine Ceq.rb ?_ | refine Ceq.begin ?_ (by omega) (by omega) (by omega) (by omega) (by omega) | refine Ceq.rg ?_ | refine Ceq.lk ?_ | refine Ceq.rk ?_ | refine Ceq.lr ?_ | refine Ceq.rr ?_ | refine Ceq.give ?_ (by omega) (by omega) | refine Ceq.kill ?_ (by omega) (by omega) | refine Ceq.set ?_ (by omega) (by omega) (by first | rfl | omega | exact congrArg w32 (by omega)))
  · unfold rLend
    rw [hA]
    simp (disch := first | omega | (simp (disch := omega) only [jset_k, jset_j, jset_same, true_and, and_true, cKill_o, rKill_o, cBegin_o, rBegin]; omega)) only [rGive_929, rKill_929, jset_929, cGive_hi, cKill_hi, cEnter_hi, jset_row, rBegin_929, cBegin_hi, hA]
    try rfl

