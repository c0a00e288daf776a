/-! THE CLAIM OUT OF ONE WALK OF THE LAW'S BODY. Your part is whole_start (and what it stands on); all else here is the same for every law, but numbers. -/
def R_law : String := "BrassBallsLaw"
def lw_P (b : Addr) (xs : List Int32) (args : Array Value) (s : State) : Prop := args = #[.ref b] ∧ s.IntsAt b xs ∧ xs.length ≤ 3584 ∧ (Jvm.Cond.and given_1 narrow_1).before args s = true
def lw_Q (_ : Array Value) (s : State) (o : Outcome) (t : State) : Prop := o = .returned (some (.int 1)) ∧ Framed s o t [] 600000 7302250
def lw_Z (below : List Frame) (a : Array Value) (s : State) : State → Prop := fun t => ∃ o, t.status = .running ∧ Ended t below o ∧ lw_Q a s o t
/-- the law's own end, with 1 on the stack, nothing written that was there before, its room as the claim has it -/
theorem lw_ret {p : Program} {l : Launch} {e : Env} {s : State} {m : MethodId} {below : List Frame} {meth : Method} {c : Code} {b : Nat} (hx : p.tables.exec = Jvm.exec) (hb : c.code = code) (hr : meth.sig.returnType = ret) (hlocks : meth.locks = false) {pc : Nat} {H : Heap} {ls : Array Slot} (hdg : decode code pc = .ok (.ireturn, 1)) : W p l e room_1 s m #[Value.ref b] below meth c H [] 600000 7302250 (lw_Z below #[Value.ref b] s) (F0 m pc ls [.int 1]) := by
  intro T hT X
  obtain ⟨fs, hret, hrun, hended, hW, hframe⟩ := X.leave (v := some (.int 1)) (hlocks := hlocks) (fun h => by rw [hr] at h; cases h)
  have hmeth' : T.vm.method? m = some meth := X.method'
  refine ⟨T.setFrames fs, ?_, .returned (some (.int 1)), hrun, hended, rfl, ⟨_, rfl⟩, hW, hframe⟩
  jvm_step X.here [X.here.top, hx, hb, hdg, hmeth', hr, ret, narrow_b1]
  (try refine ⟨rfl, ?_⟩); (try refine ⟨rfl, ?_⟩)
  first | (intro acts; rw [hret _ acts rfl rfl rfl]) | rw [hret _ _ rfl rfl rfl]
  exact Steps.refl _
/-- what holds at the law's entry: the machine, the code, the tables' words (any of lw_tbl by 'hts w (by decide +kernel)'), the script of L ints xs at the cell b, what the Statement gives of the start (any of its parts by flat_of_before) -/
def lw_At (p : Program) (s : State) (m : MethodId) (meth : Method) (c : Code) (b L : Nat) (xs : Nat → Int32) : Prop :=
  p.tables.exec = Jvm.exec ∧ c.code = code ∧ meth.sig.returnType = ret ∧ c.maxLocals = 4 ∧ s.vm.findClass R_law = some m.cls ∧ (∀ w ∈ lw_tbl, w.before #[Value.ref b] s = true) ∧ va_X b L xs s s.heap ∧ b < s.heap.size ∧ meth.locks = false ∧ (Jvm.Cond.and given_1 narrow_1).before #[Value.ref b] s = true

theorem st_Scg {N : Nat} {len : List Nat} {byt : List (List Int32)} {a a2 v v2 : Nat → Nat} {A : Nat → Prop} {U : State} {H : Heap} (ha : ∀ i, i < N → a2 i = a i) (hv : ∀ i, i < N → v2 i = v i) (h : vk_S N len byt a v A U H) : vk_S N len byt a2 v2 A U H := by
  unfold vk_S at h ⊢
  refine ⟨fun i hi => ?_, fun i j hi hj => ?_⟩
  · rw [ha i hi, hv i hi]
    exact h.1 i hi
  · rw [ha i hi, ha j hj]
    exact h.2 i j hi hj
def lwQF : jQF := fun below args s t => (∃ b : Nat, args = #[Value.ref b]) → lw_Z below args s t
theorem law_end {X : jX} {nm : String} (M : jM) (i : Int) : gE X (yl nm) cL_law 4 ret room_1 lwQF 949 30708 949 topo M 2166 (lwl i) [] := by
  refine e_iconst 2167 dL_law_2166 rfl ?_
  intro p l e s m args below meth c H locs lsA C hz hR hS hl
  by_cases h : ∃ b : Nat, args = #[Value.ref b]
  · obtain ⟨b, rfl⟩ := h
    refine va_forget (fun q hq => ?_) ?_
    · have h3 : X.2.2.1 ≤ q.base := hS.2.2 q hq
      omega
    refine W.widen (k := 600000) (n := 7302250) (by omega) (by omega) ?_
    intro T hT Xs
    obtain ⟨t, a1, b1⟩ := lw_ret (b := b) C.1 C.2.1 C.2.2.2.1 C.2.2.2.2.1 dL_law_2167 T hT Xs
    exact ⟨t, a1, fun _ => b1⟩
  · intro T hT Xs
    exact ⟨_, Steps.refl _, fun h2 => absurd h2 h⟩
theorem st_R {args : Array Value} {s : State} (hts : ∀ w ∈ lw_tbl, w.before args s = true) {a : Nat} {i : Nat} (hi : i < 21) (h : (gtm i).eval args s none [] s = some (.ref a)) : vk_R (jso i) (jsi i) (jstx i) a s := ⟨by have h2 := hts _ (gsR i hi); exact h2, h⟩
set_option maxHeartbeats 4000000 in
theorem whole_start {p : Program} {e : Env} {s : State} {m : MethodId} {below : List Frame} {meth : Method} {c : Code} (l : Launch) (hflags : l.flags = flags0) {b L : Nat} {xs : Nat → Int32} (hL : L ≤ 3584) (C0 : lw_At p s m meth c b L xs) : W p l e room_1 s m #[Value.ref b] below meth c s.heap [] 0 0 (lw_Z below #[Value.ref b] s) (entryFrame m ([Value.ref b] : List Value).toArray 4) := by
  obtain ⟨hx, hb, hr, hml, hown, hts, hX, hbl, hlocks, hgv⟩ := id C0
  obtain ⟨D, cA, hK⟩ := st_K hts
  have hA : ∀ a : Nat, a < s.heap.size → ¬ (fun q : Nat => s.heap.size ≤ q) a := fun a h => Nat.not_le.mpr h
  obtain ⟨t0, z0⟩ := st_t0 hts hgv hA
  obtain ⟨t1, z1⟩ := st_t1 hts hgv hA
  obtain ⟨t2, z2⟩ := st_t2 hts hgv hA
  obtain ⟨t3, z3⟩ := st_t3 hts hgv hA
  obtain ⟨t4, z4⟩ := st_t4 hts hgv hA
  obtain ⟨t5, z5⟩ := st_t5 hts hgv hA
  obtain ⟨adK, adV, hS, hE⟩ := st_S hgv hA
  obtain ⟨ad, hd0, hd1, hd2, hd3, hd4, hd5, hdK, hdV, hdb⟩ : ∃ ad : Nat → Nat, ad 0 = t0 ∧ ad 1 = t1 ∧ ad 2 = t2 ∧ ad 3 = t3 ∧ ad 4 = t4 ∧ ad 5 = t5 ∧ (∀ i, i < 21 → ad (6 + i) = adK i) ∧ (∀ i, i < 21 → ad (27 + i) = adV i) ∧ ad 60 = b := by
    refine ⟨fun i => if i = 0 then t0 else if i = 1 then t1 else if i = 2 then t2 else if i = 3 then t3 else if i = 4 then t4 else if i = 5 then t5 else if i < 27 then adK (i - 6) else if i < 60 then adV (i - 27) else b, rfl, rfl, rfl, rfl, rfl, rfl, fun i hi => ?_, fun i hi => ?_, rfl⟩
    · simp only [show ¬ 6 + i = 0 by omega, show ¬ 6 + i = 1 by omega, show ¬ 6 + i = 2 by omega, show ¬ 6 + i = 3 by omega, show ¬ 6 + i = 4 by omega, show ¬ 6 + i = 5 by omega, show 6 + i < 27 by omega, if_true, if_false, Nat.add_sub_cancel_left]
    · simp only [show ¬ 27 + i = 0 by omega, show ¬ 27 + i = 1 by omega, show ¬ 27 + i = 2 by omega, show ¬ 27 + i = 3 by omega, show ¬ 27 + i = 4 by omega, show ¬ 27 + i = 5 by omega, show ¬ 27 + i < 27 by omega, show 27 + i < 60 by omega, if_true, if_false, Nat.add_sub_cancel_left]
  have hS2 : vk_S 21 jlen jbyt (fun i => ad (6 + i)) (fun i => ad (27 + i)) (fun q : Nat => s.heap.size ≤ q) s s.heap := st_Scg hdK hdV hS
  have hFz : jFz (D, cA, s.heap.size, ad, L, xs) s s.heap := by
    refine ⟨fun j hj => ?_, hS2, fun i hi => st_R hts hi (by rw [hE i hi]; show _ = some (Value.ref (ad (6 + i))); rw [hdK i hi]), st_cs hts hgv hA, st_fo hts hgv hA, ?_, ?_, st_Nst hts⟩
    · match j, hj with
      | 0, _ => show va_Z _ _ _ (.ref (ad 0)) _ _ _ ∧ va_T _ (ad 0) _ _ _ _ _; rw [hd0]; exact z0
      | 1, _ => show va_Z _ _ _ (.ref (ad 1)) _ _ _ ∧ va_T _ (ad 1) _ _ _ _ _; rw [hd1]; exact z1
      | 2, _ => show va_Z _ _ _ (.ref (ad 2)) _ _ _ ∧ va_T _ (ad 2) _ _ _ _ _; rw [hd2]; exact z2
      | 3, _ => show va_Z _ _ _ (.ref (ad 3)) _ _ _ ∧ va_T _ (ad 3) _ _ _ _ _; rw [hd3]; exact z3
      | 4, _ => show va_Z _ _ _ (.ref (ad 4)) _ _ _ ∧ va_T _ (ad 4) _ _ _ _ _; rw [hd4]; exact z4
      | 5, _ => show va_Z _ _ _ (.ref (ad 5)) _ _ _ ∧ va_T _ (ad 5) _ _ _ _ _; rw [hd5]; exact z5
      | j + 6, hj => exact absurd hj (by omega)
    · show va_X (ad 60) L xs s s.heap
      rw [hdb]
      exact hX
    · show ¬ s.heap.size ≤ ad 60
      rw [hdb]
      omega
  have hl := lv_entry ([.ref b]) (n := 4) (Nat.le_of_ble_eq_true rfl)
  rw [lg_entry_eq]
  generalize (lg_sl ([.ref b]) ++ List.replicate (4 - (lg_sl ([.ref b])).length) Slot.unset).toArray = ls at hl ⊢
  have hl : lv_has ls 4 (jlv (D, cA, s.heap.size, ad, L, xs) [(0, jF 60)]) := by
    show lv_has ls 4 [(0, .ref (ad 60))]
    rw [hdb]
    exact hl
  have main := law_init (X := (D, cA, s.heap.size, ad, L, xs)) (nm := meth.name) (ret := ret) (R := room_1) (QF := lwQF) (by decide) (by decide) (by decide) (by decide) (by show (L : Int) < 100000; omega) (fun M i => law_end M i) p l e s m #[Value.ref b] below meth c s.heap [] ls ⟨hx, hb, hml, hr, hlocks, rfl, hown, fun w h => hts w (lw_sub w h), Nat.le_refl _, hK, hFz⟩ rfl ⟨fun k q h => by simp [jws] at h, fun k j => ⟨by show _ ≤ (0 : Int) ∧ (0 : Int) ≤ _; decide, fun _ => by show _ ≤ (0 : Int) ∧ (0 : Int) ≤ _; decide⟩⟩ va_S.rf hl
  intro T hT Xs
  obtain ⟨t, a1, b1⟩ := main T hT Xs
  exact ⟨t, a1, b1 ⟨b, rfl⟩⟩
