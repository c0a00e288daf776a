/-! THE START: what the statement gives -/
def gvl : List Cond := flatC (Cond.and given_1 narrow_1)
theorem gv_at {args : Array Value} {s : State} (hg : (Cond.and given_1 narrow_1).before args s = true) (k : Nat) {c : Cond} (h : gvl[k]? = some c) : c.before args s = true := flat_of_before _ hg c (List.mem_of_getElem? h)
theorem st_t0 {args : Array Value} {s : State} {A : Nat → Prop} (hts : ∀ w ∈ lw_tbl, w.before args s = true) (hg : (Cond.and given_1 narrow_1).before args s = true) (hA : ∀ a : Nat, a < s.heap.size → ¬ A a) : ∃ t : Nat, va_Z (jzc 0) (jzn 0) "[I" (.ref t) A s s.heap ∧ va_T .int t (jzt 0).length (fun i => .int (Int32.ofInt ((jzt 0).getD i 0))) A s s.heap := by
  have hel : ∀ j : Nat, j < 6 → (Term.elem (.static "BrassBalls" "RULE_WITHOUT" "[I") (.int (Int32.ofNat j))).eval args s none [] s = some ((fun i => Value.int (Int32.ofInt ((jzt 0).getD i 0))) j) := fun j hj => by
    match j, hj with
    | 0, _ => exact va_eqt (gv_at hg 7 (by decide +kernel))
    | 1, _ => exact va_eqt (gv_at hg 8 (by decide +kernel))
    | 2, _ => exact va_eqt (gv_at hg 9 (by decide +kernel))
    | 3, _ => exact va_eqt (gv_at hg 10 (by decide +kernel))
    | 4, _ => exact va_eqt (gv_at hg 11 (by decide +kernel))
    | 5, _ => exact va_eqt (gv_at hg 12 (by decide +kernel))
    | j + 6, hj => exact absurd hj (by omega)
  obtain ⟨t, h1, h2⟩ := va_Tof (tm := .static "BrassBalls" "RULE_WITHOUT" "[I") (ty := .int) (N := 6) (f := fun i => .int (Int32.ofInt ((jzt 0).getD i 0))) (A := A) (by decide) (gv_at hg 5 (by decide +kernel)) (va_eqt (gv_at hg 6 (by decide +kernel))) hel hA
  exact ⟨t, va_Zof (hts _ wn_45) (hts _ (lw_sub _ wd_1)) h1 hA, h2⟩
theorem st_t1 {args : Array Value} {s : State} {A : Nat → Prop} (hts : ∀ w ∈ lw_tbl, w.before args s = true) (hg : (Cond.and given_1 narrow_1).before args s = true) (hA : ∀ a : Nat, a < s.heap.size → ¬ A a) : ∃ t : Nat, va_Z (jzc 1) (jzn 1) "[I" (.ref t) A s s.heap ∧ va_T .int t (jzt 1).length (fun i => .int (Int32.ofInt ((jzt 1).getD i 0))) A s s.heap := by
  have hel : ∀ j : Nat, j < 6 → (Term.elem (.static "BrassBalls" "RULE_LOW" "[I") (.int (Int32.ofNat j))).eval args s none [] s = some ((fun i => Value.int (Int32.ofInt ((jzt 1).getD i 0))) j) := fun j hj => by
    match j, hj with
    | 0, _ => exact va_eqt (gv_at hg 21 (by decide +kernel))
    | 1, _ => exact va_eqt (gv_at hg 22 (by decide +kernel))
    | 2, _ => exact va_eqt (gv_at hg 23 (by decide +kernel))
    | 3, _ => exact va_eqt (gv_at hg 24 (by decide +kernel))
    | 4, _ => exact va_eqt (gv_at hg 25 (by decide +kernel))
    | 5, _ => exact va_eqt (gv_at hg 26 (by decide +kernel))
    | j + 6, hj => exact absurd hj (by omega)
  obtain ⟨t, h1, h2⟩ := va_Tof (tm := .static "BrassBalls" "RULE_LOW" "[I") (ty := .int) (N := 6) (f := fun i => .int (Int32.ofInt ((jzt 1).getD i 0))) (A := A) (by decide) (gv_at hg 19 (by decide +kernel)) (va_eqt (gv_at hg 20 (by decide +kernel))) hel hA
  exact ⟨t, va_Zof (hts _ wn_645) (hts _ (lw_sub _ wd_1)) h1 hA, h2⟩
theorem st_t2 {args : Array Value} {s : State} {A : Nat → Prop} (hts : ∀ w ∈ lw_tbl, w.before args s = true) (hg : (Cond.and given_1 narrow_1).before args s = true) (hA : ∀ a : Nat, a < s.heap.size → ¬ A a) : ∃ t : Nat, va_Z (jzc 2) (jzn 2) "[I" (.ref t) A s s.heap ∧ va_T .int t (jzt 2).length (fun i => .int (Int32.ofInt ((jzt 2).getD i 0))) A s s.heap := by
  have hel : ∀ j : Nat, j < 6 → (Term.elem (.static "BrassBalls" "RULE_HIGH" "[I") (.int (Int32.ofNat j))).eval args s none [] s = some ((fun i => Value.int (Int32.ofInt ((jzt 2).getD i 0))) j) := fun j hj => by
    match j, hj with
    | 0, _ => exact va_eqt (gv_at hg 30 (by decide +kernel))
    | 1, _ => exact va_eqt (gv_at hg 31 (by decide +kernel))
    | 2, _ => exact va_eqt (gv_at hg 32 (by decide +kernel))
    | 3, _ => exact va_eqt (gv_at hg 33 (by decide +kernel))
    | 4, _ => exact va_eqt (gv_at hg 34 (by decide +kernel))
    | 5, _ => exact va_eqt (gv_at hg 35 (by decide +kernel))
    | j + 6, hj => exact absurd hj (by omega)
  obtain ⟨t, h1, h2⟩ := va_Tof (tm := .static "BrassBalls" "RULE_HIGH" "[I") (ty := .int) (N := 6) (f := fun i => .int (Int32.ofInt ((jzt 2).getD i 0))) (A := A) (by decide) (gv_at hg 28 (by decide +kernel)) (va_eqt (gv_at hg 29 (by decide +kernel))) hel hA
  exact ⟨t, va_Zof (hts _ wn_647) (hts _ (lw_sub _ wd_1)) h1 hA, h2⟩
theorem st_t3 {args : Array Value} {s : State} {A : Nat → Prop} (hts : ∀ w ∈ lw_tbl, w.before args s = true) (hg : (Cond.and given_1 narrow_1).before args s = true) (hA : ∀ a : Nat, a < s.heap.size → ¬ A a) : ∃ t : Nat, va_Z (jzc 3) (jzn 3) "[I" (.ref t) A s s.heap ∧ va_T .int t (jzt 3).length (fun i => .int (Int32.ofInt ((jzt 3).getD i 0))) A s s.heap := by
  have hel : ∀ j : Nat, j < 6 → (Term.elem (.static "BrassBalls" "FACT_LOW" "[I") (.int (Int32.ofNat j))).eval args s none [] s = some ((fun i => Value.int (Int32.ofInt ((jzt 3).getD i 0))) j) := fun j hj => by
    match j, hj with
    | 0, _ => exact va_eqt (gv_at hg 39 (by decide +kernel))
    | 1, _ => exact va_eqt (gv_at hg 40 (by decide +kernel))
    | 2, _ => exact va_eqt (gv_at hg 41 (by decide +kernel))
    | 3, _ => exact va_eqt (gv_at hg 42 (by decide +kernel))
    | 4, _ => exact va_eqt (gv_at hg 43 (by decide +kernel))
    | 5, _ => exact va_eqt (gv_at hg 44 (by decide +kernel))
    | j + 6, hj => exact absurd hj (by omega)
  obtain ⟨t, h1, h2⟩ := va_Tof (tm := .static "BrassBalls" "FACT_LOW" "[I") (ty := .int) (N := 6) (f := fun i => .int (Int32.ofInt ((jzt 3).getD i 0))) (A := A) (by decide) (gv_at hg 37 (by decide +kernel)) (va_eqt (gv_at hg 38 (by decide +kernel))) hel hA
  exact ⟨t, va_Zof (hts _ wn_694) (hts _ (lw_sub _ wd_1)) h1 hA, h2⟩
theorem st_t4 {args : Array Value} {s : State} {A : Nat → Prop} (hts : ∀ w ∈ lw_tbl, w.before args s = true) (hg : (Cond.and given_1 narrow_1).before args s = true) (hA : ∀ a : Nat, a < s.heap.size → ¬ A a) : ∃ t : Nat, va_Z (jzc 4) (jzn 4) "[I" (.ref t) A s s.heap ∧ va_T .int t (jzt 4).length (fun i => .int (Int32.ofInt ((jzt 4).getD i 0))) A s s.heap := by
  have hel : ∀ j : Nat, j < 6 → (Term.elem (.static "BrassBalls" "FACT_HIGH" "[I") (.int (Int32.ofNat j))).eval args s none [] s = some ((fun i => Value.int (Int32.ofInt ((jzt 4).getD i 0))) j) := fun j hj => by
    match j, hj with
    | 0, _ => exact va_eqt (gv_at hg 48 (by decide +kernel))
    | 1, _ => exact va_eqt (gv_at hg 49 (by decide +kernel))
    | 2, _ => exact va_eqt (gv_at hg 50 (by decide +kernel))
    | 3, _ => exact va_eqt (gv_at hg 51 (by decide +kernel))
    | 4, _ => exact va_eqt (gv_at hg 52 (by decide +kernel))
    | 5, _ => exact va_eqt (gv_at hg 53 (by decide +kernel))
    | j + 6, hj => exact absurd hj (by omega)
  obtain ⟨t, h1, h2⟩ := va_Tof (tm := .static "BrassBalls" "FACT_HIGH" "[I") (ty := .int) (N := 6) (f := fun i => .int (Int32.ofInt ((jzt 4).getD i 0))) (A := A) (by decide) (gv_at hg 46 (by decide +kernel)) (va_eqt (gv_at hg 47 (by decide +kernel))) hel hA
  exact ⟨t, va_Zof (hts _ wn_696) (hts _ (lw_sub _ wd_1)) h1 hA, h2⟩
theorem st_t5 {args : Array Value} {s : State} {A : Nat → Prop} (hts : ∀ w ∈ lw_tbl, w.before args s = true) (hg : (Cond.and given_1 narrow_1).before args s = true) (hA : ∀ a : Nat, a < s.heap.size → ¬ A a) : ∃ t : Nat, va_Z (jzc 5) (jzn 5) "[I" (.ref t) A s s.heap ∧ va_T .int t (jzt 5).length (fun i => .int (Int32.ofInt ((jzt 5).getD i 0))) A s s.heap := by
  have hel : ∀ j : Nat, j < 7 → (Term.elem (.static "BrassBalls$Planner" "FIGURE" "[I") (.int (Int32.ofNat j))).eval args s none [] s = some ((fun i => Value.int (Int32.ofInt ((jzt 5).getD i 0))) j) := fun j hj => by
    match j, hj with
    | 0, _ => exact va_eqt (gv_at hg 57 (by decide +kernel))
    | 1, _ => exact va_eqt (gv_at hg 58 (by decide +kernel))
    | 2, _ => exact va_eqt (gv_at hg 59 (by decide +kernel))
    | 3, _ => exact va_eqt (gv_at hg 60 (by decide +kernel))
    | 4, _ => exact va_eqt (gv_at hg 61 (by decide +kernel))
    | 5, _ => exact va_eqt (gv_at hg 62 (by decide +kernel))
    | 6, _ => exact va_eqt (gv_at hg 63 (by decide +kernel))
    | j + 7, hj => exact absurd hj (by omega)
  obtain ⟨t, h1, h2⟩ := va_Tof (tm := .static "BrassBalls$Planner" "FIGURE" "[I") (ty := .int) (N := 7) (f := fun i => .int (Int32.ofInt ((jzt 5).getD i 0))) (A := A) (by decide) (gv_at hg 55 (by decide +kernel)) (va_eqt (gv_at hg 56 (by decide +kernel))) hel hA
  exact ⟨t, va_Zof (hts _ wn_998) (hts _ (lw_sub _ wd_12)) h1 hA, h2⟩
theorem st_cs {args : Array Value} {s : State} {A : Nat → Prop} (hts : ∀ w ∈ lw_tbl, w.before args s = true) (hg : (Cond.and given_1 narrow_1).before args s = true) (hA : ∀ a : Nat, a < s.heap.size → ¬ A a) : va_Z "java/lang/String" "COMPACT_STRINGS" "Z" (.int 1) A s s.heap :=
  va_Zof (hts _ wn_568) (hts _ (lw_sub _ wd_15)) (va_eqt (gv_at hg 13 (by decide +kernel))) hA
theorem st_fo {args : Array Value} {s : State} {A : Nat → Prop} (hts : ∀ w ∈ lw_tbl, w.before args s = true) (hg : (Cond.and given_1 narrow_1).before args s = true) (hA : ∀ a : Nat, a < s.heap.size → ¬ A a) : va_Zq "jdk/internal/util/Preconditions" "SIOOBE_FORMATTER" "Ljava/util/function/BiFunction;" A s s.heap :=
  va_Zqof (hts _ wn_584) (hts _ (lw_sub _ wd_17)) (gv_at hg 14 (by decide +kernel)) hA
