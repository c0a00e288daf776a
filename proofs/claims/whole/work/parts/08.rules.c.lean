/-! THE RULES: calls and ends -/
def jRoom (R : Room) (d1 mc ms cells slots : Nat) : Prop := d1 + 1 ≤ R.frames ∧ 100 * d1 + 100 ≤ R.locals ∧ cells + mc ≤ R.cells ∧ slots + ms ≤ R.slots
theorem jroom {d d1 : Nat} (h : d1 + 1 ≤ d) : jRoom (jrm d 0 0) d1 0 0 0 0 := ⟨h, by show 100 * d1 + 100 ≤ 100 * d; omega, Nat.le_refl 0, Nat.le_refl 0⟩
def jKn (Q : Int → jM → Prop) : jK := fun z n N M => n = 949 ∧ N = topo ∧ Q z M
/-- a method that makes no cell: its contract -/
def jCt (y : MethodName) (cc : ByteArray) (mL : Nat) (ret : Option FieldType) (d : Nat) (av : List jV) (M : jM) (Q : Int → jM → Prop) : Prop := ∀ X : jX, jMet X y cc mL ret d 0 0 av 949 topo M (jKn Q)
/-- .. and its walk -/
abbrev jE (X : jX) (y : MethodName) (cc : ByteArray) (mL : Nat) (ret : Option FieldType) (d : Nat) (Q : Int → jM → Prop) (M : jM) (pc : Nat) (ls : List (Nat × jV)) (st : List jV) : Prop := gE X y cc mL ret (jrm d 0 0) (jEnd X ret (jKn Q) 0 0) 0 0 949 topo M pc ls st
theorem jCt_of {y : MethodName} {cc : ByteArray} {mL : Nat} {ret : Option FieldType} {np d : Nat} {av : List jV} {M : jM} {Q : Int → jM → Prop} (hy : jMth y cc mL ret np) (hsl : jsl av ≤ mL) (h : ∀ X : jX, jE X y cc mL ret d Q M 0 (jav 0 av) []) : jCt y cc mL ret d av M Q := fun X => jMet_of hy hsl (h X)
def jpush (ret : Option FieldType) (z : Int) (st : List jV) : List jV := match ret with
  | none => st
  | some .long => jL z :: st
  | some _ => jI z :: st
theorem jpush_eq (X : jX) (ret : Option FieldType) (z : Int) (st : List jV) : (jpush ret z st).map (jv X) = (jrv ret z).toList ++ st.map (jv X) := by
  cases ret with
  | none => rfl
  | some t => cases t <;> rfl
theorem jrevmap (X : jX) (av st : List jV) : (av.reverse ++ st).map (jv X) = (av.map (jv X)).reverse ++ st.map (jv X) := by rw [List.map_append, List.map_reverse]
theorem jcb {p : Program} {s : State} {m : MethodId} {args : Array Value} {meth : Method} {c : Code} {X : jX} {y : MethodName} {cc : ByteArray} {mL : Nat} {ret : Option FieldType} {R : Room} {y1 : MethodName} {cc1 : ByteArray} {mL1 : Nat} {ret1 : Option FieldType} {np ix d1 mc ms : Nat} (C : jCtx X y cc mL ret p s m args meth c) (hm : jMth y1 cc1 mL1 ret1 np) (hl : Cond.methodLink y.cls ix y1 ∈ lw_g) (h80 : mL1 ≤ 80) (hr : d1 + 1 ≤ R.frames ∧ 100 * d1 + 100 ≤ R.locals) : CallB R s args y.cls ix y1 cc1 mL1 ret1 (jwd y1 cc1 mL1 ret1) (jrm d1 mc ms) mc ms np :=
  callB_of np C.2.2.2.2.2.2.2.1 (jwd_good hm.1) rfl rfl rfl (C.2.2.2.2.2.2.2.1 _ hm.2.1) (C.2.2.2.2.2.2.2.1 _ hl) hm.2.2.1 ⟨hr.1, by show 8 + (mL1 + 11) + 100 * d1 ≤ R.locals; omega⟩
section RC
variable {X : jX} {y : MethodName} {cc : ByteArray} {mL : Nat} {ret : Option FieldType} {R : Room} {QF : jQF} {cells slots n : Nat} {N : jN} {M : jM} {pc : Nat} {ls : List (Nat × jV)} {st : List jV}
variable {y1 : MethodName} {cc1 : ByteArray} {mL1 : Nat} {ret1 : Option FieldType} {np d1 ix : Nat} {av rest : List jV}
theorem jrecv {p : Program} {s : State} {m : MethodId} {args : Array Value} {meth : Method} {c : Code} {H : Heap} (C : jCtx X y cc mL ret p s m args meth c) (hR : jRel X n N M H) {k : Int} {ci : Nat} (hk : jAt n k ci) (hci : jCls ci) (hcn : jCn ci = y1.cls) : ∃ cellB : Cell, H[X.2.2.1 + k.toNat]? = some cellB ∧ cellB.vm.isStatics = false ∧ s.vm.findClass y1.cls = some cellB.cls := by
  have h := va_recv C.2.2.2.2.2.2.2.2.2.1 hR.1 (q0 := k.toNat) hci.2.1 (jat hk hci.1)
  rw [← hcn]
  exact h
theorem e_callSG (q : Nat) {mc ms : Nat} {K : jK} (hm : jMth y1 cc1 mL1 ret1 np) (hv : Cond.static y1 ∈ lw_g) (hl : Cond.methodLink y.cls ix y1 ∈ lw_g) (h80 : mL1 ≤ 80) (hdg : decode cc pc = .ok (.invokestatic ix, 3)) (hs : st = av.reverse ++ rest) (hn : av.length = np) (hrest : (rest.map jcat).sum ≤ 8) (hr : jRoom R d1 mc ms cells slots) (hq : pc + 3 = q) (hM : jMet X y1 cc1 mL1 ret1 d1 mc ms av n N M K) (kk : ∀ (z : Int) (n2 : Nat) (N2 : jN) (M2 : jM), K z n2 N2 M2 → n2 = n + mc ∧ gE X y cc mL ret R QF (cells + mc) (slots + ms) n2 N2 M2 q ls (jpush ret1 z rest)) : gE X y cc mL ret R QF cells slots n N M pc ls st := by
  subst hq
  subst hs
  intro p l e s m args below meth c H locs lsA C hz hR hS hll
  have hcs : (rest.map jcat).sum ≤ 8 := hrest
  intro T hT Xs
  have hsz : H.size = X.2.2.1 + n := by subst hT; exact jSize C.2.2.2.2.2.2.2.2.1 hz hR hS Xs
  refine jRun (ret1 := ret1) (K := K) (rest := rest.map (jv X)) (va_runS (As := av.map (jv X)) (rest := rest.map (jv X)) ⟨C.1, C.2.1, C.2.2.1, C.2.2.2.2.2.2.1, C.2.2.2.2.2.2.2.1⟩ (hM l) ⟨jcb C hm hl h80 ⟨hr.1, hr.2.1⟩, C.2.2.2.2.2.2.2.1 _ hv⟩ ⟨jP_blind, jPre C hR hS hsz⟩ rfl (by rw [List.length_map]; exact hn) hll.1 (by show (av.reverse ++ rest).map (jv X) = _; rw [jrevmap]) (by
    have e : ((rest.map (jv X)).map fun v => v.category) = rest.map jcat := by
      rw [List.map_map]
      apply List.map_congr_left
      intro v _
      exact jcat_eq X v
    rw [e]
    show 2 * 0 + _ ≤ 8
    omega) hdg ⟨hr.2.2.1, hr.2.2.2⟩) hS (fun z n2 N2 M2 H1 locs1 hK hR1 hS1 => ?_) T hT Xs
  obtain ⟨e1, h1⟩ := kk z n2 N2 M2 hK
  rw [← jpush_eq]
  exact h1 p l e s m args below meth c H1 locs1 lsA C (by omega) hR1 hS1 hll
theorem e_callS (q : Nat) (hm : jMth y1 cc1 mL1 ret1 np) (hv : Cond.static y1 ∈ lw_g) (hl : Cond.methodLink y.cls ix y1 ∈ lw_g) (h80 : mL1 ≤ 80) (hdg : decode cc pc = .ok (.invokestatic ix, 3)) (hs : st = av.reverse ++ rest) (hn : av.length = np) (hrest : (rest.map jcat).sum ≤ 8) (hr : jRoom R d1 0 0 cells slots) (hq : pc + 3 = q) (hM : jCt y1 cc1 mL1 ret1 d1 av M (fun z M2 => gE X y cc mL ret R QF cells slots 949 topo M2 q ls (jpush ret1 z rest))) : gE X y cc mL ret R QF cells slots 949 topo M pc ls st := by
  exact e_callSG (mc := 0) (ms := 0) q hm hv hl h80 hdg hs hn hrest hr hq (hM X) (fun z n2 N2 M2 h => by
    obtain ⟨h1, h2, h3⟩ := h
    subst h1
    subst h2
    exact ⟨rfl, h3⟩)
theorem e_callVG (q : Nat) {mc ms : Nat} {K : jK} (hm : jMth y1 cc1 mL1 ret1 np) (hv : Cond.instanceMethod y1 ∈ lw_g ∧ Cond.selects y1.cls y1 y1 ∈ lw_g) (hl : Cond.methodLink y.cls ix y1 ∈ lw_g) (h80 : mL1 ≤ 80) (hdg : decode cc pc = .ok (.invokevirtual ix, 3)) {k : Int} {ci : Nat} (hk : jAt n k ci) (hci : jCls ci) (hcn : jCn ci = y1.cls) (hs : st = av.reverse ++ jR k :: rest) (hn : av.length = np) (hrest : (rest.map jcat).sum ≤ 8) (hr : jRoom R d1 mc ms cells slots) (hq : pc + 3 = q) (hM : jMet X y1 cc1 mL1 ret1 d1 mc ms (jR k :: av) n N M K) (kk : ∀ (z : Int) (n2 : Nat) (N2 : jN) (M2 : jM), K z n2 N2 M2 → n2 = n + mc ∧ gE X y cc mL ret R QF (cells + mc) (slots + ms) n2 N2 M2 q ls (jpush ret1 z rest)) : gE X y cc mL ret R QF cells slots n N M pc ls st := by
  subst hq
  subst hs
  intro p l e s m args below meth c H locs lsA C hz hR hS hll
  have hcs : (rest.map jcat).sum ≤ 8 := hrest
  intro T hT Xs
  have hsz : H.size = X.2.2.1 + n := by subst hT; exact jSize C.2.2.2.2.2.2.2.2.1 hz hR hS Xs
  refine jRun (ret1 := ret1) (K := K) (rest := rest.map (jv X)) (va_runV (b := X.2.2.1 + k.toNat) (As := av.map (jv X)) (rest := rest.map (jv X)) (C := y1.cls) ⟨C.1, C.2.1, C.2.2.1, C.2.2.2.2.2.2.1, C.2.2.2.2.2.2.2.1⟩ (hM l) ⟨jcb C hm hl h80 ⟨hr.1, hr.2.1⟩, C.2.2.2.2.2.2.2.1 _ hv.1, C.2.2.2.2.2.2.2.1 _ hv.2⟩ ⟨jP_blind, jrecv C hR hk hci hcn, jPre C hR hS hsz⟩ rfl (by rw [List.length_map]; exact hn) hll.1 (by show (av.reverse ++ jR k :: rest).map (jv X) = _; rw [jrevmap]; rfl) (by
    have e : ((rest.map (jv X)).map fun v => v.category) = rest.map jcat := by
      rw [List.map_map]
      apply List.map_congr_left
      intro v _
      exact jcat_eq X v
    rw [e]
    show 2 * 0 + _ ≤ 8
    omega) hdg ⟨hr.2.2.1, hr.2.2.2⟩) hS (fun z n2 N2 M2 H1 locs1 hK hR1 hS1 => ?_) T hT Xs
  obtain ⟨e1, h1⟩ := kk z n2 N2 M2 hK
  rw [← jpush_eq]
  exact h1 p l e s m args below meth c H1 locs1 lsA C (by omega) hR1 hS1 hll
theorem e_callV (q : Nat) (hm : jMth y1 cc1 mL1 ret1 np) (hv : Cond.instanceMethod y1 ∈ lw_g ∧ Cond.selects y1.cls y1 y1 ∈ lw_g) (hl : Cond.methodLink y.cls ix y1 ∈ lw_g) (h80 : mL1 ≤ 80) (hdg : decode cc pc = .ok (.invokevirtual ix, 3)) {k : Int} {ci : Nat} (hk : jAt 949 k ci) (hci : jCls ci) (hcn : jCn ci = y1.cls) (hs : st = av.reverse ++ jR k :: rest) (hn : av.length = np) (hrest : (rest.map jcat).sum ≤ 8) (hr : jRoom R d1 0 0 cells slots) (hq : pc + 3 = q) (hM : jCt y1 cc1 mL1 ret1 d1 (jR k :: av) M (fun z M2 => gE X y cc mL ret R QF cells slots 949 topo M2 q ls (jpush ret1 z rest))) : gE X y cc mL ret R QF cells slots 949 topo M pc ls st := by
  exact e_callVG (mc := 0) (ms := 0) q hm hv hl h80 hdg hk hci hcn hs hn hrest hr hq (hM X) (fun z n2 N2 M2 h => by
    obtain ⟨h1, h2, h3⟩ := h
    subst h1
    subst h2
    exact ⟨rfl, h3⟩)
theorem e_callSNG (q : Nat) {mc ms : Nat} {K : jK} (hm : jMth y1 cc1 mL1 ret1 np) (hv : Cond.static y1 ∈ lw_g) (hl : (y.cls, ix, y1, "BrassBalls") ∈ jnM) (h80 : mL1 ≤ 80) (hdg : decode cc pc = .ok (.invokestatic ix, 3)) (hs : st = av.reverse ++ rest) (hn : av.length = np) (hrest : (rest.map jcat).sum ≤ 8) (hr : jRoom R d1 mc ms cells slots) (hq : pc + 3 = q) (hM : jMet X y1 cc1 mL1 ret1 d1 mc ms av n N M K) (kk : ∀ (z : Int) (n2 : Nat) (N2 : jN) (M2 : jM), K z n2 N2 M2 → n2 = n + mc ∧ gE X y cc mL ret R QF (cells + mc) (slots + ms) n2 N2 M2 q ls (jpush ret1 z rest)) : gE X y cc mL ret R QF cells slots n N M pc ls st := by
  subst hq
  subst hs
  intro p l e s m args below meth c H locs lsA C hz hR hS hll
  have hcs : (rest.map jcat).sum ≤ 8 := hrest
  intro T hT Xs
  have hsz : H.size = X.2.2.1 + n := by subst hT; exact jSize C.2.2.2.2.2.2.2.2.1 hz hR hS Xs
  refine jRun (ret1 := ret1) (K := K) (rest := rest.map (jv X)) (va_runSN (As := av.map (jv X)) (rest := rest.map (jv X)) ⟨C.1, C.2.1, C.2.2.1, C.2.2.2.2.2.2.1, C.2.2.2.2.2.2.2.1⟩ (hM l) ⟨va_cnB np C.2.2.2.2.2.2.2.1 (jwd_good hm.1) rfl rfl rfl ((C.2.2.2.2.2.2.2.2.2.2 : jFz X s s.heap).2.2.2.2.2.2.2.2.1 _ hl) (C.2.2.2.2.2.2.2.1 _ hm.2.1) hm.2.2.1 ⟨hr.1, by show 8 + (mL1 + 11) + 100 * d1 ≤ R.locals; have := hr.2.1; omega⟩, C.2.2.2.2.2.2.2.1 _ hv, trivial⟩ ⟨jP_blind, jPre C hR hS hsz⟩ rfl (by rw [List.length_map]; exact hn) hll.1 (by show (av.reverse ++ rest).map (jv X) = _; rw [jrevmap]) (by
    have e : ((rest.map (jv X)).map fun v => v.category) = rest.map jcat := by
      rw [List.map_map]
      apply List.map_congr_left
      intro v _
      exact jcat_eq X v
    rw [e]
    show 2 * 0 + _ ≤ 8
    omega) hdg ⟨hr.2.2.1, hr.2.2.2⟩) hS (fun z n2 N2 M2 H1 locs1 hK hR1 hS1 => ?_) T hT Xs
  obtain ⟨e1, h1⟩ := kk z n2 N2 M2 hK
  rw [← jpush_eq]
  exact h1 p l e s m args below meth c H1 locs1 lsA C (by omega) hR1 hS1 hll
theorem e_callSN (q : Nat) (hm : jMth y1 cc1 mL1 ret1 np) (hv : Cond.static y1 ∈ lw_g) (hl : (y.cls, ix, y1, "BrassBalls") ∈ jnM) (h80 : mL1 ≤ 80) (hdg : decode cc pc = .ok (.invokestatic ix, 3)) (hs : st = av.reverse ++ rest) (hn : av.length = np) (hrest : (rest.map jcat).sum ≤ 8) (hr : jRoom R d1 0 0 cells slots) (hq : pc + 3 = q) (hM : jCt y1 cc1 mL1 ret1 d1 av M (fun z M2 => gE X y cc mL ret R QF cells slots 949 topo M2 q ls (jpush ret1 z rest))) : gE X y cc mL ret R QF cells slots 949 topo M pc ls st := by
  exact e_callSNG (mc := 0) (ms := 0) q hm hv hl h80 hdg hs hn hrest hr hq (hM X) (fun z n2 N2 M2 h => by
    obtain ⟨h1, h2, h3⟩ := h
    subst h1
    subst h2
    exact ⟨rfl, h3⟩)
theorem e_iret {z : Int} {d : Nat} {Q : Int → jM → Prop} (hdg : decode cc pc = .ok (.ireturn, 1)) (hQ : Q z M) : jE X y cc mL (some .int) d Q M pc ls [jI z] := by
  intro p l e s m args below meth c H locs lsA C hz hR hS hl
  exact W.iret C.1 C.2.1 C.2.2.2.1 (fun t ht _ => ⟨⟨z, 949, topo, M, rfl, ⟨rfl, rfl, hQ⟩, by rw [ht]; exact hR⟩, hS.F ht⟩) hS.2.2 hdg C.2.2.2.2.1
theorem e_zret {z : Int} {d : Nat} {Q : Int → jM → Prop} (hdg : decode cc pc = .ok (.ireturn, 1)) (hz01 : z = 0 ∨ z = 1) (hQ : Q z M) : jE X y cc mL (some .boolean) d Q M pc ls [jI z] := by
  intro p l e s m args below meth c H locs lsA C hz hR hS hl
  exact W.zret C.1 C.2.1 C.2.2.2.1 (by rcases hz01 with h | h <;> subst h <;> rfl) (fun t ht _ => ⟨⟨z, 949, topo, M, rfl, ⟨rfl, rfl, hQ⟩, by rw [ht]; exact hR⟩, hS.F ht⟩) hS.2.2 hdg C.2.2.2.2.1
theorem e_lret {z : Int} {d : Nat} {Q : Int → jM → Prop} (hdg : decode cc pc = .ok (.lreturn, 1)) (hQ : Q z M) : jE X y cc mL (some .long) d Q M pc ls [jL z] := by
  intro p l e s m args below meth c H locs lsA C hz hR hS hl
  exact W.lret C.1 C.2.1 C.2.2.2.1 (fun t ht _ => ⟨⟨z, 949, topo, M, rfl, ⟨rfl, rfl, hQ⟩, by rw [ht]; exact hR⟩, hS.F ht⟩) hS.2.2 hdg C.2.2.2.2.1
theorem e_vret {d : Nat} {Q : Int → jM → Prop} (hdg : decode cc pc = .ok (.return_, 1)) (hQ : Q 0 M) : jE X y cc mL none d Q M pc ls [] := by
  intro p l e s m args below meth c H locs lsA C hz hR hS hl
  exact W.vret C.1 C.2.1 C.2.2.2.1 (fun t ht _ => ⟨⟨0, 949, topo, M, rfl, ⟨rfl, rfl, hQ⟩, by rw [ht]; exact hR⟩, hS.F ht⟩) hS.2.2 hdg C.2.2.2.2.1
theorem e_vretG {mc ms : Nat} {K : jK} (hdg : decode cc pc = .ok (.return_, 1)) (hK : K 0 n N M) : gE X y cc mL none R (jEnd X none K mc ms) mc ms n N M pc ls [] := by
  intro p l e s m args below meth c H locs lsA C hz hR hS hl
  exact W.vret C.1 C.2.1 C.2.2.2.1 (fun t ht _ => ⟨⟨0, n, N, M, rfl, hK, by rw [ht]; exact hR⟩, hS.F ht⟩) hS.2.2 hdg C.2.2.2.2.1
theorem e_ok (kk : jOk M → gE X y cc mL ret R QF cells slots n N M pc ls st) : gE X y cc mL ret R QF cells slots n N M pc ls st := by
  intro p l e s m args below meth c H locs lsA C hz hR hS hl
  exact kk hR.2 p l e s m args below meth c H locs lsA C hz hR hS hl
theorem e_w32 {z : Int} (kk : gE X y cc mL ret R QF cells slots n N M pc ls (jI (w32 z) :: st)) : gE X y cc mL ret R QF cells slots n N M pc ls (jI z :: st) := by
  intro p l e s m args below meth c H locs lsA C hz hR hS hl
  have h := kk p l e s m args below meth c H locs lsA C hz hR hS hl
  have e2 : jv X (jI (w32 z)) = jv X (jI z) := congrArg Value.int (of_w32 z)
  rw [List.map_cons, e2] at h
  exact h
theorem e_w32b {z : Int} {v : jV} (kk : gE X y cc mL ret R QF cells slots n N M pc ls (v :: jI (w32 z) :: st)) : gE X y cc mL ret R QF cells slots n N M pc ls (v :: jI z :: st) := by
  intro p l e s m args below meth c H locs lsA C hz hR hS hl
  have h := kk p l e s m args below meth c H locs lsA C hz hR hS hl
  have e2 : jv X (jI (w32 z)) = jv X (jI z) := congrArg Value.int (of_w32 z)
  rw [List.map_cons, List.map_cons, e2] at h
  exact h
theorem e_ls {ls2 : List (Nat × jV)} (h : ls2.map (fun q => jlk ls q.1) = ls2.map (fun q => some q.2)) (kk : gE X y cc mL ret R QF cells slots n N M pc ls2 st) : gE X y cc mL ret R QF cells slots n N M pc ls st := by
  intro p l e s m args below meth c H locs lsA C hz hR hS hl
  refine kk p l e s m args below meth c H locs lsA C hz hR hS ⟨hl.1, hl.2.1, fun q hq => ?_⟩
  obtain ⟨r, hr, rfl⟩ := List.mem_map.mp hq
  obtain ⟨i, hi, hi2⟩ := List.getElem_of_mem hr
  have e1 := congrArg (fun l => l[i]?) h
  simp only [List.getElem?_map, List.getElem?_eq_getElem hi, Option.map_some, hi2, Option.some.injEq] at e1
  exact jlv_at hl e1
theorem e_eqst {st2 : List jV} (he : st = st2) (kk : gE X y cc mL ret R QF cells slots n N M pc ls st2) : gE X y cc mL ret R QF cells slots n N M pc ls st := by
  subst he
  exact kk
theorem e_put0 (q : Nat) {k j v : Int} {ix ci jn : Nat} (hf : jFld y.cls ix ci jn) (hdg : decode cc pc = .ok (.putfield ix, 3)) (hk : jAt n k ci) (hty : jft ci jn = 0) (hfi : (jT ci jn).2.2.2 = false) (hj : (jn : Int) = j) (hv : (-2147483648 ≤ v ∧ v ≤ 2147483647)) (h0 : M k j = v) (hq : pc + 3 = q) (kk : gE X y cc mL ret R QF cells slots n N M q ls st) : gE X y cc mL ret R QF cells slots n N M pc ls (jI v :: jR k :: st) := by
  have e : jset M k j v = M := by
    funext k' j'
    unfold jset
    by_cases h : k' = k ∧ j' = j
    · rw [if_pos h, h.1, h.2, h0]
    · rw [if_neg h]
  refine e_puti q hf hdg hk hty hfi hj hv hq ?_
  rw [e]
  exact kk
end RC
