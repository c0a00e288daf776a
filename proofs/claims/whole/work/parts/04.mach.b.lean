/-! THE MINI MACHINE: its judgement, and calls -/
def jlk : List (Nat × jV) → Nat → Option jV
  | [], _ => none
  | q :: l, k => match Nat.beq q.1 k with
    | true => some q.2
    | false => jlk l k
def jst1 (l : List (Nat × jV)) (k : Nat) (v : jV) : List (Nat × jV) := (k, v) :: l.filter (fun q => !(q.1 == k) && !(q.1 + 1 == k && jcat q.2 == 2))
def jst2 (l : List (Nat × jV)) (k : Nat) (v : jV) : List (Nat × jV) := (k, v) :: l.filter (fun q => !(q.1 == k) && (!(q.1 == k + 1) && !(q.1 + 1 == k && jcat q.2 == 2)))
def jlv (X : jX) (l : List (Nat × jV)) : List (Nat × Value) := l.map (fun q => (q.1, jv X q.2))
theorem jlk_mem {v : jV} : ∀ {l : List (Nat × jV)} {k : Nat}, jlk l k = some v → (k, v) ∈ l
  | [], _, h => by cases h
  | q :: l, k, h => by
    unfold jlk at h
    cases e : Nat.beq q.1 k with
    | true =>
      rw [e] at h
      have h1 : q.1 = k := Nat.eq_of_beq_eq_true e
      have h2 : q.2 = v := Option.some.inj h
      subst h1; subst h2
      exact List.mem_cons_self
    | false =>
      rw [e] at h
      exact List.mem_cons_of_mem _ (jlk_mem h)
theorem jlv_at {X : jX} {ls : List (Nat × jV)} {lsA : Array Slot} {mL k : Nat} {v : jV} (h : lv_has lsA mL (jlv X ls)) (hk : jlk ls k = some v) : lsA[k]? = some (.val (jv X v)) :=
  h.2.2 (k, jv X v) (List.mem_map.mpr ⟨(k, v), jlk_mem hk, rfl⟩)
theorem jlv_st1 {X : jX} {l : List (Nat × jV)} {k : Nat} {v : jV} : (k, jv X v) :: (jlv X l).filter (fun q => !(q.1 == k) && !(q.1 + 1 == k && q.2.category == 2)) = jlv X (jst1 l k v) := by
  unfold jlv jst1
  rw [List.map_cons, List.filter_map]
  congr 2
  apply List.filter_congr
  intro q _
  simp [jcat_eq]
theorem jlv_st2 {X : jX} {l : List (Nat × jV)} {k : Nat} {v : jV} : (k, jv X v) :: (jlv X l).filter (fun q => !(q.1 == k) && (!(q.1 == k + 1) && !(q.1 + 1 == k && q.2.category == 2))) = jlv X (jst2 l k v) := by
  unfold jlv jst2
  rw [List.map_cons, List.filter_map]
  congr 2
  apply List.filter_congr
  intro q _
  simp [jcat_eq]
theorem va_AOA.moved {ty : FieldType} {u U : State} (hvm : u.vm.Alike U.vm) (h : va_AOA ty u) : va_AOA ty U := by
  unfold va_AOA Cond.before Cond.holds at h ⊢
  simp only [Cond.value, beq_iff_eq] at h ⊢
  have f1 : U.vm.findClass (FieldType.array ty).toString = u.vm.findClass (FieldType.array ty).toString := by rw [hvm.findClass]
  have f2 : U.vm.findClass ("[" ++ (FieldType.array ty).toString) = u.vm.findClass ("[" ++ (FieldType.array ty).toString) := by rw [hvm.findClass]
  rw [f1]
  cases hc : u.vm.findClass (FieldType.array ty).toString with
  | none => simp [hc] at h
  | some comp =>
    simp only [hc, Option.bind_some, Option.bind_eq_some_iff, Option.map_eq_some_iff] at h ⊢
    obtain ⟨c, hi, k, hk, hb⟩ := h
    obtain ⟨k', hk', he⟩ := hvm.2.2 _ _ hk
    have hi2 : (U.vm.classes.findIdx? fun (x : Class) => match x.kind with | .array component _ => component == comp | _ => false) = some c := by
      have e : U.vm.bare = u.vm.bare := by first | exact hvm.bare_eq | exact hvm.bare_eq.symm
      have a := va_idx_bare U.vm comp
      rw [e] at a
      exact a.symm.trans ((va_idx_bare u.vm comp).trans hi)
    refine ⟨c, hi2, k', hk', ?_⟩
    have hkind : k'.kind = k.kind := by rw [he]
    rw [hkind, f2]
    exact hb
/-- words that no list of a method's bears: nest mates, arrays of references -/
def jNst (U : State) : Prop := (∀ q ∈ jnF, va_Nw (.fieldLinkNest q.1 q.2.1 q.2.2.1 q.2.2.2.1 q.2.2.2.2.1 q.2.2.2.2.2) U) ∧ (∀ q ∈ jnM, va_Nw (.methodLinkNest q.1 q.2.1 q.2.2.1 q.2.2.2) U) ∧ (∀ C ∈ jaO, va_AO C U) ∧ va_AOA .int U
theorem jNst.warm {u U : State} (hW : u.WarmedH U.vm) (h : jNst u) : jNst U :=
  ⟨fun q hq => va_Nw.warmF hW (h.1 q hq), fun q hq => va_Nw.warmM hW (h.2.1 q hq), fun C hC => (h.2.2.1 C hC).moved hW.alike, h.2.2.2.moved hW.alike⟩
/-- frozen: six tables of ints, the literals, COMPACT_STRINGS, the formatter, the script (at 60) -/
def jFz (X : jX) (U : State) (H : Heap) : Prop :=
  (∀ j : Nat, j < 6 → va_Z (jzc j) (jzn j) "[I" (.ref (X.2.2.2.1 j)) (jA X) U H ∧ va_T .int (X.2.2.2.1 j) (jzt j).length (fun i => .int (Int32.ofInt ((jzt j).getD i 0))) (jA X) U H) ∧
  vk_S 21 jlen jbyt (fun i => X.2.2.2.1 (6 + i)) (fun i => X.2.2.2.1 (27 + i)) (jA X) U H ∧
  (∀ i : Nat, i < 21 → vk_R (jso i) (jsi i) (jstx i) (X.2.2.2.1 (6 + i)) U) ∧
  va_Z "java/lang/String" "COMPACT_STRINGS" "Z" (.int 1) (jA X) U H ∧
  va_Zq "jdk/internal/util/Preconditions" "SIOOBE_FORMATTER" "Ljava/util/function/BiFunction;" (jA X) U H ∧
  va_X (X.2.2.2.1 60) X.2.2.2.2.1 X.2.2.2.2.2 U H ∧ ¬ jA X (X.2.2.2.1 60) ∧ jNst U
theorem jFz.step {X : jX} {u U : State} {H H1 : Heap} (hW : u.WarmedH U.vm) (hq : ∀ a : Nat, a < H.size → ¬ jA X a → H1[a]? = H[a]?) (h : jFz X u H) : jFz X U H1 := by
  obtain ⟨h1, h2, h3, h4, h5, h6, h7, h8⟩ := h
  refine ⟨fun j hj => ⟨((h1 j hj).1.moved hW.alike).kept hq, ((h1 j hj).2.moved hW.alike).kept hq⟩, (h2.moved hW.alike).kept hq, fun i hi => (h3 i hi).warm hW, (h4.moved hW.alike).kept hq, ?_, ?_, h7, h8.warm hW⟩
  · rcases h5 with h | ⟨t, h⟩
    · exact Or.inl ((h.moved hW.alike).kept hq)
    · exact Or.inr ⟨t, (h.moved hW.alike).kept hq⟩
  · obtain ⟨scr, e1, e2⟩ := h6
    exact (va_X.moved hW.alike ⟨scr, e1, e2⟩).kept (hq _ (Array.getElem?_eq_some_iff.mp e1).1 h7)
/-- what holds at a method's start -/
def jCtx (X : jX) (y : MethodName) (cc : ByteArray) (mL : Nat) (ret : Option FieldType) (p : Program) (s : State) (m : MethodId) (args : Array Value) (meth : Method) (c : Code) : Prop :=
  p.tables.exec = Jvm.exec ∧ c.code = cc ∧ c.maxLocals = mL ∧ meth.sig.returnType = ret ∧ meth.locks = false ∧ meth.name = y.name ∧ s.vm.findClass y.cls = some m.cls ∧ (∀ w ∈ lw_g, w.before args s = true) ∧ X.2.2.1 ≤ s.heap.size ∧ va_K X.1 vwCl (jtys X) s ∧ jFz X s s.heap
abbrev jQF : Type := List Frame → Array Value → State → State → Prop
/-- from the state with these cells, at pc with these locals and this stack, the machine comes to a state as QF says -/
def gE (X : jX) (y : MethodName) (cc : ByteArray) (mL : Nat) (ret : Option FieldType) (R : Room) (QF : jQF) (cells slots n : Nat) (N : jN) (M : jM) (pc : Nat) (ls : List (Nat × jV)) (st : List jV) : Prop :=
  ∀ (p : Program) (l : Launch) (e : Env) (s : State) (m : MethodId) (args : Array Value) (below : List Frame) (meth : Method) (c : Code) (H : Heap) (locs : List Loc) (lsA : Array Slot),
    jCtx X y cc mL ret p s m args meth c → s.heap.size + cells = X.2.2.1 + n → jRel X n N M H → va_S (jA X) s.heap H locs → lv_has lsA mL (jlv X ls) →
    W p l e R s m args below meth c H locs cells slots (QF below args s) (F0 m pc lsA (st.map (jv X)))
def jrv (ret : Option FieldType) (z : Int) : Option Value := match ret with
  | none => none
  | some .long => some (.long (Int64.ofInt z))
  | some _ => some (.int (Int32.ofInt z))
abbrev jK : Type := Int → Nat → jN → jM → Prop
/-- what a method answers and leaves -/
def jQ (X : jX) (ret : Option FieldType) (K : jK) : Array Value → State → Outcome → State → Prop := fun _ st oc t =>
  (∃ (z : Int) (n' : Nat) (N' : jN) (M' : jM), oc = .returned (jrv ret z) ∧ K z n' N' M' ∧ jRel X n' N' M' t.heap) ∧ va_F (jA X) st t
def jP (X : jX) (av : List jV) (n : Nat) (N : jN) (M : jM) : Array Value → State → Prop := fun v U =>
  v = (av.map (jv X)).toArray ∧ jRel X n N M U.heap ∧ va_K X.1 vwCl (jtys X) U ∧ jFz X U U.heap ∧ U.heap.size = X.2.2.1 + n
def jrm (d mc ms : Nat) : Room := { frames := d, cells := mc, slots := ms, locals := 100 * d }
def jwd (y : MethodName) (cc : ByteArray) (mL : Nat) (ret : Option FieldType) : List Cond := Cond.code y cc mL ret :: lw_g
/-- a contract, at every launch -/
def jMet (X : jX) (y : MethodName) (cc : ByteArray) (mL : Nat) (ret : Option FieldType) (d mc ms : Nat) (av : List jV) (n : Nat) (N : jN) (M : jM) (K : jK) : Prop :=
  ∀ l : Launch, Met l y (jwd y cc mL ret) (jrm d mc ms) (jP X av n N M) (jQ X ret K) mc ms (jA X)
def jEnd (X : jX) (ret : Option FieldType) (K : jK) (mc ms : Nat) : jQF := fun below args s => MQ below (jQ X ret K) args s mc ms (jA X)
/-- facts of a method's name -/
def jMth (y : MethodName) (cc : ByteArray) (mL : Nat) (ret : Option FieldType) (np : Nat) : Prop :=
  Cond.code y cc mL ret ∈ lw_g ∧ Cond.initialized y.cls ∈ lw_g ∧ (y.cls ≠ "java/lang/invoke/MethodHandle" ∧ y.cls ≠ "java/lang/invoke/VarHandle" ∧ (parseMethodDescriptor y.desc).map (fun d => d.parameters.length) = some np) ∧ plainName y.cls = true
theorem lw_good : ∀ w ∈ lw_g, (w.onTables && w.keeps) = true ∨ ∃ ty, w = .arrayClass ty := fun w h => good_of_word (List.mem_filter.mp h).2
theorem jwd_good {y : MethodName} {cc : ByteArray} {mL : Nat} {ret : Option FieldType} (h : Cond.code y cc mL ret ∈ lw_g) : GoodIn lw_g (jwd y cc mL ret) := by
  intro w hw
  rcases List.mem_cons.mp hw with e | e
  · rw [e]; exact ⟨h, lw_good _ h⟩
  · exact ⟨e, lw_good _ e⟩
/-- the arguments' locals -/
def jav : Nat → List jV → List (Nat × jV)
  | _, [] => []
  | i, v :: l => (i, v) :: jav (if jcat v = 2 then i + 2 else i + 1) l
theorem jav_eq (X : jX) : ∀ (av : List jV) (i : Nat), lv_args i (av.map (jv X)) = jlv X (jav i av)
  | [], _ => rfl
  | v :: l, i => by
    show (i, jv X v) :: lv_args (if (jv X v).category = 2 then i + 2 else i + 1) (l.map (jv X)) = (i, jv X v) :: jlv X (jav (if jcat v = 2 then i + 2 else i + 1) l)
    rw [jcat_eq, jav_eq X l]
def jsl (av : List jV) : Nat := (av.map jcat).sum
theorem jsl_eq (X : jX) : ∀ av : List jV, (lg_sl (av.map (jv X))).length = jsl av
  | [] => rfl
  | v :: l => by
    have h := jsl_eq X l
    rcases lv_cat (jv X v) with e | e
    · have e2 := e
      rw [jcat_eq] at e2
      simp [lg_sl, jsl, e, e2] at h ⊢
      omega
    · have e2 := e
      rw [jcat_eq] at e2
      simp [lg_sl, jsl, e, e2] at h ⊢
      omega
/-- a contract out of the walk of the body -/
theorem jMet_of {X : jX} {y : MethodName} {cc : ByteArray} {mL : Nat} {ret : Option FieldType} {np d mc ms n : Nat} {av : List jV} {N : jN} {M : jM} {K : jK} (hy : jMth y cc mL ret np) (hsl : jsl av ≤ mL)
    (h : gE X y cc mL ret (jrm d mc ms) (jEnd X ret K mc ms) 0 0 n N M 0 (jav 0 av) []) : jMet X y cc mL ret d mc ms av n N M K := by
  intro l
  refine Met.ofW (cc := cc) (maxL := mL) (ret := ret) hy.2.2.2 rfl ?_
  intro p e s m args below meth c s₁ B hml hv
  obtain ⟨rfl, hR, hK, hF, hz⟩ := hv
  have hts := atoms_spec (ws := jwd y cc mL ret) B.pre
  have hl := lv_entry (av.map (jv X)) (n := mL) (by rw [jsl_eq]; exact hsl)
  rw [lg_entry_eq]
  generalize (lg_sl (av.map (jv X)) ++ List.replicate (mL - (lg_sl (av.map (jv X))).length) Slot.unset).toArray = lsA at hl ⊢
  rw [jav_eq] at hl
  exact h p l e s m _ below meth c s.heap [] lsA ⟨B.exec, B.bytes, hml, B.returns, B.notSynchronized, (name_of_methodNamed B.named B.method).1, findClass_of_methodNamed B.named, fun w hw => hts w (List.mem_cons_of_mem _ hw), by rw [hz]; omega, hK, hF⟩ hz hR va_S.rf hl
theorem jP_blind {X : jX} {av : List jV} {n : Nat} {N : jN} {M : jM} : FrameBlind (jP X av n N M) := by
  intro a U g mk h
  exact ⟨h.1, h.2.1, va_K.moved (u := U) (U := U.calling g mk a) (Vm.Alike.refl U.vm) h.2.2.1, jFz.step (u := U) (U := U.calling g mk a) (State.WarmedH.refl U) (fun _ _ _ => rfl) h.2.2.2.1, h.2.2.2.2⟩
section JC
variable {X : jX} {y : MethodName} {cc : ByteArray} {mL : Nat} {ret : Option FieldType} {R : Room} {QF : jQF} {cells slots n : Nat} {N : jN} {M : jM} {pc pc' : Nat} {ls : List (Nat × jV)} {st : List jV}
theorem jRun {p : Program} {l : Launch} {e : Env} {s : State} {m : MethodId} {args : Array Value} {below : List Frame} {meth : Method} {c : Code} {H : Heap} {locs : List Loc} {mc ms : Nat} {lsA : Array Slot} {st0 rest : List Value} {ret1 : Option FieldType} {K : jK} {a : Array Value} {Q : State → Prop}
    (hr : va_Run p l e R s m args below meth c H locs cells slots mc ms (F0 m pc lsA st0) rest (jQ X ret1 K a) (jA X)) (hS : va_S (jA X) s.heap H locs)
    (kk : ∀ (z : Int) (n' : Nat) (N' : jN) (M' : jM) (H1 : Heap) (locs1 : List Loc), K z n' N' M' → jRel X n' N' M' H1 → va_S (jA X) s.heap H1 locs1 → W p l e R s m args below meth c H1 locs1 (cells + mc) (slots + ms) Q (F0 m (pc + 3) lsA ((jrv ret1 z).toList ++ rest))) :
    W p l e R s m args below meth c H locs cells slots Q (F0 m pc lsA st0) := by
  intro T hT Xs
  obtain ⟨v, st₀, t, T', L, h0, X', hL, e1, e2, ⟨⟨z, n', N', M', hv, hK, hR⟩, hz, hk⟩, st⟩ := hr T hT Xs
  cases hv
  rw [h0] at hz hk
  obtain ⟨t2, a1, b1⟩ := kk z n' N' M' T'.heap (locs ++ L) hK (by rw [e1]; exact hR)
    ⟨Nat.le_trans hS.1 (by rw [e1]; exact hz), fun q h1 h2 => by rw [e1, hk q (Nat.lt_of_lt_of_le h1 hS.1) h2]; exact hS.2.1 q h1 h2, fun q hq => by
      rcases List.mem_append.mp hq with h | h
      · exact hS.2.2 q h
      · exact hL q h⟩ T' rfl X'
  exact ⟨t2, st t2 a1, b1⟩
theorem jPre {p : Program} {s : State} {m : MethodId} {args : Array Value} {meth : Method} {c : Code} {H : Heap} {locs : List Loc} {av : List jV} (C : jCtx X y cc mL ret p s m args meth c) (hR : jRel X n N M H) (hS : va_S (jA X) s.heap H locs) (hz : H.size = X.2.2.1 + n) : ∀ U : State, U.heap = H → s.WarmedH U.vm → jP X av n N M (av.map (jv X)).toArray U := by
  intro U hU hW
  refine ⟨rfl, by rw [hU]; exact hR, va_K.moved hW.alike C.2.2.2.2.2.2.2.2.2.1, ?_, by rw [hU]; exact hz⟩
  rw [hU]
  exact jFz.step hW (fun a h1 h2 => hS.2.1 a h1 h2) C.2.2.2.2.2.2.2.2.2.2
/-- how large the heap is, by the room that was used -/
theorem jSize {p : Program} {l : Launch} {e : Env} {s : State} {m : MethodId} {args : Array Value} {below : List Frame} {meth : Method} {c : Code} {T : State} {locs : List Loc} (h0 : X.2.2.1 ≤ s.heap.size) (hz : s.heap.size + cells = X.2.2.1 + n) (hR : jRel X n N M T.heap) (hS : va_S (jA X) s.heap T.heap locs) (Xs : Stand p l e R s m args below meth c T locs cells slots) : T.heap.size = X.2.2.1 + n := by
  have h1 := Xs.heapSize
  have h2 := hS.1
  rcases Nat.eq_zero_or_pos n with h | h
  · omega
  · have h3 := (hR.1 (n - 1) _ (jws_at (by omega))).lt
    simp only at h3
    omega
theorem jcatsum {l : List jV} (h : (l.map jcat).sum ≤ 8) : 2 * JFrame.monitorRoom (F0 (⟨0, 0⟩ : MethodId) pc #[] []) + ((l.map (jv X)).map fun v => v.category).sum ≤ 8 := by
  have e : ((l.map (jv X)).map fun v => v.category) = l.map jcat := by
    rw [List.map_map]
    apply List.map_congr_left
    intro v _
    exact jcat_eq X v
  rw [e]
  show 2 * 0 + _ ≤ 8
  omega
end JC
