/-! THE RULES: fields, arrays, statics -/
theorem jcls_ref {ci j : Nat} (h : jCls ci) (hj : j < jnf ci) (hf : jft ci j = 2) : (∃ n, jTy ci j = .object n) ∨ ∃ t, jTy ci j = .array t := (h.2.2.2.2.2 j hj).2.2.1 hf
theorem w32_set {M : jM} {k j v : Int} : Int32.ofInt (jset M k j (w32 v) k j) = Int32.ofInt v := by rw [jset_same, of_w32]
theorem jput {X : jX} {N N' : jN} {M M' : jM} {n ci jn : Nat} {k : Int} (hk : jAt n k ci) (hc : ci < 13) (hN : ∀ k' : Int, k' ≠ k → ∀ j, N k' j = N' k' j) (hN2 : ∀ j : Int, j ≠ jn → N k j = N' k j) (hM : ∀ k' : Int, k' ≠ k → ∀ j, M k' j = M' k' j) (hM2 : ∀ j : Int, j ≠ jn → M k j = M' k j) : (jws X N M n).set k.toNat (X.2.2.1 + k.toNat, .inr (ci, (jfs X N M k ci).set jn (jfv X N' M' k ci jn))) = jws X N' M' n := by
  rw [jfs_set (fun i hi => hN2 i hi) (fun i hi => hM2 i hi)]
  have e7 : (k.toNat : Int) = k := Int.toNat_of_nonneg hk.1
  have e8 : (Sum.inr (ci, jfs X N' M' k ci) : va_E) = jcell X N' M' k := by
    unfold jcell
    rw [hk.2.2, if_pos hc]
  have h := jws_set (X := X) (N := N) (N' := N') (M := M) (M' := M') (n := n) (k := k.toNat) (fun k' hk' i => hN k' (by rw [e7] at hk'; exact hk') i) (fun k' hk' i => hM k' (by rw [e7] at hk'; exact hk') i)
  rw [e7] at h
  rw [e8]
  exact h
theorem jputA {X : jX} {N N' : jN} {M M' : jM} {n : Nat} {k : Int} (hk : 0 ≤ k) (hN : ∀ k' : Int, k' ≠ k → ∀ j, N k' j = N' k' j) (hM : ∀ k' : Int, k' ≠ k → ∀ j, M k' j = M' k' j) : (jws X N M n).set k.toNat (X.2.2.1 + k.toNat, jcell X N' M' k) = jws X N' M' n := by
  have e7 : (k.toNat : Int) = k := Int.toNat_of_nonneg hk
  have h := jws_set (X := X) (N := N) (N' := N') (M := M) (M' := M') (n := n) (k := k.toNat) (fun k' hk' i => hN k' (by rw [e7] at hk'; exact hk') i) (fun k' hk' i => hM k' (by rw [e7] at hk'; exact hk') i)
  rw [e7] at h
  exact h
/-- a row of arrays of ints: aaload -/
theorem jald2 {p : Program} {l : Launch} {e : Env} {R : Room} {s : State} {m : MethodId} {args : Array Value} {below : List Frame} {meth : Method} {c : Code} {H : Heap} {locs : List Loc} {cells slots : Nat} {Q : State → Prop} {cc : ByteArray} {pc : Nat} {ls : Array Slot} {rest : List Value} {D : va_G} {cl : List vw_C} {a : Nat} {tys : List (ClassId × FieldType)} {ws : va_W}
    (hexec : p.tables.exec = Jvm.exec) (hb : c.code = cc) (hK : va_K D cl tys s) (hP : va_P D cl ws H) (q0 t0 : Nat) {cA : ClassId} {ty : FieldType} {n : Nat} {f : Nat → Option Nat} (ha : ws[q0]? = some (a, .inl (cA, n, .inr (.inr (.inr (.inr f)))))) (ht : tys[t0]? = some (cA, .array ty)) {i : Int32} (hin : vp_in i n) (hdg : decode cc pc = .ok (.aaload, 1))
    (kk : W p l e R s m args below meth c H locs cells slots Q (F0 m (pc + 1) ls (va_rf (f i.toNatClampNeg) :: rest))) : W p l e R s m args below meth c H locs cells slots Q (F0 m pc ls (.int i :: .ref a :: rest)) := by
  have hlt : i.toNatClampNeg < n := Nat.not_le.mp fun q => hin (Or.inr q)
  exact W.aald (v := va_rf (f i.toNatClampNeg)) (ty := .array ty) hexec hb (hP q0 _ ha) ((hK.2 t0 _ ht).1 n (fun j => va_rf (f j))) rfl (fun q => by cases q) (by show ¬ (i < 0 ∨ (arrV _ _ _).slots.size ≤ _); rw [arrV_size]; exact hin) (by show (arrV _ _ _).slots[_]? = _; rw [arrV_read _ _ hlt]) rfl rfl hdg kk
section RF
variable {X : jX} {y : MethodName} {cc : ByteArray} {mL : Nat} {ret : Option FieldType} {R : Room} {QF : jQF} {cells slots n : Nat} {N : jN} {M : jM} {pc : Nat} {ls : List (Nat × jV)} {st : List jV}
theorem e_geti (q : Nat) {k j : Int} {ix ci jn : Nat} (hf : jFld y.cls ix ci jn) (hdg : decode cc pc = .ok (.getfield ix, 3)) (hk : jAt n k ci) (hty : jft ci jn ≠ 2) (hj : (jn : Int) = j) (hq : pc + 3 = q) (kk : (-2147483648 ≤ M k j ∧ M k j ≤ 2147483647) → gE X y cc mL ret R QF cells slots n N M q ls (jI (M k j) :: st)) : gE X y cc mL ret R QF cells slots n N M pc ls (jR k :: st) := by
  subst hq
  subst hj
  intro p l e s m args below meth c H locs lsA C hz hR hS hl
  obtain ⟨hc, hjn, hw⟩ := hf
  have hok := (hR.2 k (jn : Int)).2 (by rw [hk.2.2]; have := hc.1; show ci ≠ 16; omega)
  have hv : jfv X N M k ci jn = .int (Int32.ofInt (M k (jn : Int))) := if_neg hty
  have h := kk hok p l e s m args below meth c H locs lsA C hz hR hS hl
  refine va_get C.1 C.2.1 C.2.2.2.2.2.2.2.1 hc.2.2.1 C.2.2.2.2.2.2.1 C.2.2.2.2.2.2.2.2.2.1 hR.1 k.toNat (jat hk hc.1) hc.2.1 jn hjn (C.2.2.2.2.2.2.2.1 _ hw) (fun _ h => h) (jfs_at hjn) hdg ?_
  rw [hv]
  exact h
theorem e_getr (q : Nat) {k k2 j : Int} {ix ci jn : Nat} (hf : jFld y.cls ix ci jn) (hdg : decode cc pc = .ok (.getfield ix, 3)) (hk : jAt n k ci) (hty : jft ci jn = 2) (hj : (jn : Int) = j) (hN : N k j = some k2) (hq : pc + 3 = q) (kk : gE X y cc mL ret R QF cells slots n N M q ls (jR k2 :: st)) : gE X y cc mL ret R QF cells slots n N M pc ls (jR k :: st) := by
  subst hq
  subst hj
  intro p l e s m args below meth c H locs lsA C hz hR hS hl
  obtain ⟨hc, hjn, hw⟩ := hf
  have hv : jfv X N M k ci jn = .ref (X.2.2.1 + k2.toNat) := by
    unfold jfv
    rw [if_pos hty, hN]
    rfl
  have h := kk p l e s m args below meth c H locs lsA C hz hR hS hl
  refine va_get C.1 C.2.1 C.2.2.2.2.2.2.2.1 hc.2.2.1 C.2.2.2.2.2.2.1 C.2.2.2.2.2.2.2.2.2.1 hR.1 k.toNat (jat hk hc.1) hc.2.1 jn hjn (C.2.2.2.2.2.2.2.1 _ hw) (fun _ h => h) (jfs_at hjn) hdg ?_
  rw [hv]
  exact h
theorem jput_dummy : True := trivial
theorem e_puti (q : Nat) {k j v : Int} {ix ci jn : Nat} (hf : jFld y.cls ix ci jn) (hdg : decode cc pc = .ok (.putfield ix, 3)) (hk : jAt n k ci) (hty : jft ci jn = 0) (hfi : (jT ci jn).2.2.2 = false) (hj : (jn : Int) = j) (hv : (-2147483648 ≤ v ∧ v ≤ 2147483647)) (hq : pc + 3 = q) (kk : gE X y cc mL ret R QF cells slots n N (jset M k j (v)) q ls st) : gE X y cc mL ret R QF cells slots n N M pc ls (jI v :: jR k :: st) := by
  subst hq
  subst hj
  intro p l e s m args below meth c H locs lsA C hz hR hS hl
  obtain ⟨hc, hjn, hw⟩ := hf
  have hty0 : jTy ci jn = .int := (hc.2.2.2.2.2 jn hjn).1 hty
  have hne : jft ci jn ≠ 2 := by rw [hty]; decide
  have hval : jfv X N (jset M k (jn : Int) (v)) k ci jn = jv X (jI v) := by
    unfold jfv
    rw [if_neg hne, jset_same]
    rfl
  have hd := hc.2.2.2.1 jn hjn
  rw [hty0] at hd
  refine va_put C.1 C.2.1 C.2.2.2.2.2.2.2.1 hc.2.2.1 (jTy ci) hc.2.2.2.1 hc.2.2.2.2.1 C.2.2.2.2.2.2.1 C.2.2.2.2.2.2.2.2.2.1 hR.1 jws_D hS k.toNat (jat hk hc.1) hc.2.1 jn hjn (C.2.2.2.2.2.2.2.1 _ hw) (fun _ h => h) hfi hd rfl rfl (by rw [jfs_len]; exact hjn) hdg (fun H1 locs1 hP hD hS1 => ?_)
  rw [← hval, jput hk hc.1 (fun _ _ _ => rfl) (fun _ _ => rfl) (fun k' hk' j' => (jset_k hk').symm) (fun j' hj' => (jset_j hj').symm)] at hP
  exact kk p l e s m args below meth c H1 locs1 lsA C hz ⟨hP, hR.2.set32 hv⟩ hS1 hl
theorem e_putw (q : Nat) {k j v : Int} {ix ci jn : Nat} (hf : jFld y.cls ix ci jn) (hdg : decode cc pc = .ok (.putfield ix, 3)) (hk : jAt n k ci) (hty : jft ci jn = 0) (hfi : (jT ci jn).2.2.2 = false) (hj : (jn : Int) = j) (hq : pc + 3 = q) (kk : gE X y cc mL ret R QF cells slots n N (jset M k j (w32 v)) q ls st) : gE X y cc mL ret R QF cells slots n N M pc ls (jI v :: jR k :: st) := by
  subst hq
  subst hj
  intro p l e s m args below meth c H locs lsA C hz hR hS hl
  obtain ⟨hc, hjn, hw⟩ := hf
  have hty0 : jTy ci jn = .int := (hc.2.2.2.2.2 jn hjn).1 hty
  have hne : jft ci jn ≠ 2 := by rw [hty]; decide
  have hval : jfv X N (jset M k (jn : Int) (w32 v)) k ci jn = jv X (jI v) := by
    unfold jfv
    rw [if_neg hne, w32_set]
    rfl
  have hd := hc.2.2.2.1 jn hjn
  rw [hty0] at hd
  refine va_put C.1 C.2.1 C.2.2.2.2.2.2.2.1 hc.2.2.1 (jTy ci) hc.2.2.2.1 hc.2.2.2.2.1 C.2.2.2.2.2.2.1 C.2.2.2.2.2.2.2.2.2.1 hR.1 jws_D hS k.toNat (jat hk hc.1) hc.2.1 jn hjn (C.2.2.2.2.2.2.2.1 _ hw) (fun _ h => h) hfi hd rfl rfl (by rw [jfs_len]; exact hjn) hdg (fun H1 locs1 hP hD hS1 => ?_)
  rw [← hval, jput hk hc.1 (fun _ _ _ => rfl) (fun _ _ => rfl) (fun k' hk' j' => (jset_k hk').symm) (fun j' hj' => (jset_j hj').symm)] at hP
  exact kk p l e s m args below meth c H1 locs1 lsA C hz ⟨hP, hR.2.set32 (w32_in v)⟩ hS1 hl
theorem e_putz (q : Nat) {k j v : Int} {ix ci jn : Nat} (hf : jFld y.cls ix ci jn) (hdg : decode cc pc = .ok (.putfield ix, 3)) (hk : jAt n k ci) (hty : jft ci jn = 1) (hfi : (jT ci jn).2.2.2 = false) (hj : (jn : Int) = j) (hv : v = 0 ∨ v = 1) (hq : pc + 3 = q) (kk : gE X y cc mL ret R QF cells slots n N (jset M k j (v)) q ls st) : gE X y cc mL ret R QF cells slots n N M pc ls (jI v :: jR k :: st) := by
  subst hq
  subst hj
  intro p l e s m args below meth c H locs lsA C hz hR hS hl
  obtain ⟨hc, hjn, hw⟩ := hf
  have hty0 : jTy ci jn = .boolean := (hc.2.2.2.2.2 jn hjn).2.1 hty
  have hne : jft ci jn ≠ 2 := by rw [hty]; decide
  have hval : jfv X N (jset M k (jn : Int) (v)) k ci jn = jv X (jI v) := by
    unfold jfv
    rw [if_neg hne, jset_same]
    rfl
  have hd := hc.2.2.2.1 jn hjn
  rw [hty0] at hd
  refine va_put C.1 C.2.1 C.2.2.2.2.2.2.2.1 hc.2.2.1 (jTy ci) hc.2.2.2.1 hc.2.2.2.2.1 C.2.2.2.2.2.2.1 C.2.2.2.2.2.2.2.2.2.1 hR.1 jws_D hS k.toNat (jat hk hc.1) hc.2.1 jn hjn (C.2.2.2.2.2.2.2.1 _ hw) (fun _ h => h) hfi hd (by rcases hv with h | h <;> subst h <;> rfl) (by rcases hv with h | h <;> subst h <;> rfl) (by rw [jfs_len]; exact hjn) hdg (fun H1 locs1 hP hD hS1 => ?_)
  rw [← hval, jput hk hc.1 (fun _ _ _ => rfl) (fun _ _ => rfl) (fun k' hk' j' => (jset_k hk').symm) (fun j' hj' => (jset_j hj').symm)] at hP
  exact kk p l e s m args below meth c H1 locs1 lsA C hz ⟨hP, hR.2.set32 (by omega)⟩ hS1 hl
theorem e_iald (q : Nat) {k j z : Int} (hdg : decode cc pc = .ok (.iaload, 1)) (hk : jAr n k 13 z) (h0 : 0 ≤ j) (h1 : j < z) (hq : pc + 1 = q) (kk : (-2147483648 ≤ M k j ∧ M k j ≤ 2147483647) → gE X y cc mL ret R QF cells slots n N M q ls (jI (M k j) :: st)) : gE X y cc mL ret R QF cells slots n N M pc ls (jI j :: jR k :: st) := by
  subst hq
  intro p l e s m args below meth c H locs lsA C hz hR hS hl
  obtain ⟨ha, e1, e2⟩ := jarr (X := X) (N := N) (M := M) hk (by decide)
  have hok := (hR.2 k j).2 (by rw [e1]; decide)
  have e3 : jar X N M k = (z.toNat, .inl (fun j => Int32.ofInt (M k (j : Int)))) := by
    unfold jar
    rw [e1, e2]
    rfl
  rw [e3] at ha
  have e4 : (Int32.ofInt j).toNatClampNeg = j.toNat := of_clamp h0 (by have := hk.2.2.2.2; omega)
  have e5 : ((j.toNat : Nat) : Int) = j := Int.toNat_of_nonneg h0
  refine va_iald C.1 C.2.1 C.2.2.2.2.2.2.2.2.2.1 hR.1 k.toNat 0 ha rfl (of_in h0 h1 hk.2.2.2.2) hdg ?_
  rw [e4]
  show W p l e R s m args below meth c H locs cells slots _ (F0 m (pc + 1) lsA (.int (Int32.ofInt (M k ((j.toNat : Nat) : Int))) :: st.map (jv X)))
  rw [e5]
  exact kk hok p l e s m args below meth c H locs lsA C hz hR hS hl
theorem e_bald (q : Nat) {k j z : Int} (hdg : decode cc pc = .ok (.baload, 1)) (hk : jAr n k 14 z) (h0 : 0 ≤ j) (h1 : j < z) (hq : pc + 1 = q) (kk : (-2147483648 ≤ M k j ∧ M k j ≤ 2147483647) → gE X y cc mL ret R QF cells slots n N M q ls (jI (M k j) :: st)) : gE X y cc mL ret R QF cells slots n N M pc ls (jI j :: jR k :: st) := by
  subst hq
  intro p l e s m args below meth c H locs lsA C hz hR hS hl
  obtain ⟨ha, e1, e2⟩ := jarr (X := X) (N := N) (M := M) hk (by decide)
  have hok := (hR.2 k j).2 (by rw [e1]; decide)
  have e3 : jar X N M k = (z.toNat, .inl (fun j => Int32.ofInt (M k (j : Int)))) := by
    unfold jar
    rw [e1, e2]
    rfl
  rw [e3] at ha
  have e4 : (Int32.ofInt j).toNatClampNeg = j.toNat := of_clamp h0 (by have := hk.2.2.2.2; omega)
  have e5 : ((j.toNat : Nat) : Int) = j := Int.toNat_of_nonneg h0
  refine va_bald C.1 C.2.1 C.2.2.2.2.2.2.2.2.2.1 hR.1 k.toNat 1 ha rfl (of_in h0 h1 hk.2.2.2.2) hdg ?_
  rw [e4]
  show W p l e R s m args below meth c H locs cells slots _ (F0 m (pc + 1) lsA (.int (Int32.ofInt (M k ((j.toNat : Nat) : Int))) :: st.map (jv X)))
  rw [e5]
  exact kk hok p l e s m args below meth c H locs lsA C hz hR hS hl
theorem e_zald (q : Nat) {k j z : Int} (hdg : decode cc pc = .ok (.baload, 1)) (hk : jAr n k 15 z) (h0 : 0 ≤ j) (h1 : j < z) (hq : pc + 1 = q) (kk : (-2147483648 ≤ M k j ∧ M k j ≤ 2147483647) → gE X y cc mL ret R QF cells slots n N M q ls (jI (M k j) :: st)) : gE X y cc mL ret R QF cells slots n N M pc ls (jI j :: jR k :: st) := by
  subst hq
  intro p l e s m args below meth c H locs lsA C hz hR hS hl
  obtain ⟨ha, e1, e2⟩ := jarr (X := X) (N := N) (M := M) hk (by decide)
  have hok := (hR.2 k j).2 (by rw [e1]; decide)
  have e3 : jar X N M k = (z.toNat, .inl (fun j => Int32.ofInt (M k (j : Int)))) := by
    unfold jar
    rw [e1, e2]
    rfl
  rw [e3] at ha
  have e4 : (Int32.ofInt j).toNatClampNeg = j.toNat := of_clamp h0 (by have := hk.2.2.2.2; omega)
  have e5 : ((j.toNat : Nat) : Int) = j := Int.toNat_of_nonneg h0
  refine va_zald C.1 C.2.1 C.2.2.2.2.2.2.2.2.2.1 hR.1 k.toNat 2 ha rfl (of_in h0 h1 hk.2.2.2.2) hdg ?_
  rw [e4]
  show W p l e R s m args below meth c H locs cells slots _ (F0 m (pc + 1) lsA (.int (Int32.ofInt (M k ((j.toNat : Nat) : Int))) :: st.map (jv X)))
  rw [e5]
  exact kk hok p l e s m args below meth c H locs lsA C hz hR hS hl
theorem e_lald (q : Nat) {k j z : Int} (hdg : decode cc pc = .ok (.laload, 1)) (hk : jAr n k 16 z) (h0 : 0 ≤ j) (h1 : j < z) (hq : pc + 1 = q) (kk : (-9223372036854775808 ≤ M k j ∧ M k j ≤ 9223372036854775807) → gE X y cc mL ret R QF cells slots n N M q ls (jL (M k j) :: st)) : gE X y cc mL ret R QF cells slots n N M pc ls (jI j :: jR k :: st) := by
  subst hq
  intro p l e s m args below meth c H locs lsA C hz hR hS hl
  obtain ⟨ha, e1, e2⟩ := jarr (X := X) (N := N) (M := M) hk (by decide)
  have hok := (hR.2 k j).1
  have e3 : jar X N M k = (z.toNat, .inr (.inl (fun j => Int64.ofInt (M k (j : Int))))) := by
    unfold jar
    rw [e1, e2]
    rfl
  rw [e3] at ha
  have e4 : (Int32.ofInt j).toNatClampNeg = j.toNat := of_clamp h0 (by have := hk.2.2.2.2; omega)
  have e5 : ((j.toNat : Nat) : Int) = j := Int.toNat_of_nonneg h0
  refine va_lald C.1 C.2.1 C.2.2.2.2.2.2.2.2.2.1 hR.1 k.toNat 3 ha rfl (of_in h0 h1 hk.2.2.2.2) hdg ?_
  rw [e4]
  show W p l e R s m args below meth c H locs cells slots _ (F0 m (pc + 1) lsA (.long (Int64.ofInt (M k ((j.toNat : Nat) : Int))) :: st.map (jv X)))
  rw [e5]
  exact kk hok p l e s m args below meth c H locs lsA C hz hR hS hl
theorem e_iast (q : Nat) {k j z v : Int} (hdg : decode cc pc = .ok (.iastore, 1)) (hk : jAr n k 13 z) (h0 : 0 ≤ j) (h1 : j < z) (hv : (-2147483648 ≤ v ∧ v ≤ 2147483647)) (hq : pc + 1 = q) (kk : gE X y cc mL ret R QF cells slots n N (jset M k j (v)) q ls st) : gE X y cc mL ret R QF cells slots n N M pc ls (jI v :: jI j :: jR k :: st) := by
  subst hq
  intro p l e s m args below meth c H locs lsA C hz hR hS hl
  obtain ⟨ha, e1, e2⟩ := jarr (X := X) (N := N) (M := M) hk (by decide)
  have e3 : ∀ M : jM, jar X N M k = (z.toNat, .inl (fun j => Int32.ofInt (M k (j : Int)))) := by
    intro M
    unfold jar
    rw [e1, e2]
    rfl
  rw [e3] at ha
  have e4 : (Int32.ofInt j).toNatClampNeg = j.toNat := of_clamp h0 (by have := hk.2.2.2.2; omega)
  have e5 : ((j.toNat : Nat) : Int) = j := Int.toNat_of_nonneg h0
  refine va_iast C.1 C.2.1 C.2.2.2.2.2.2.2.2.2.1 hR.1 jws_D hS k.toNat 0 ha rfl (of_in h0 h1 hk.2.2.2.2) hdg (fun H1 locs1 hP hD hS1 => ?_)
  rw [e4] at hP
  have e6 : (upd (fun j => Int32.ofInt (M k (j : Int))) j.toNat (Int32.ofInt v) : Nat → Int32) = (fun i : Nat => Int32.ofInt (jset M k j (v) k (i : Int))) := by
    funext i
    unfold upd jset
    by_cases hi : i = j.toNat
    · subst hi
      rw [if_pos rfl, if_pos ⟨rfl, e5⟩]
    · rw [if_neg hi, if_neg (fun q => hi (by omega))]
  rw [e6] at hP
  have e7 : (k.toNat : Int) = k := Int.toNat_of_nonneg hk.1
  have e8 : (Sum.inl (X.2.1 (13 - 13), z.toNat, .inl (fun i : Nat => Int32.ofInt (jset M k j (v) k (i : Int)))) : va_E) = jcell X N (jset M k j (v)) k := by
    unfold jcell
    rw [e1, if_neg (by decide), e3]
  rw [e8, jputA hk.1 (fun _ _ _ => rfl) (fun k' hk' i => (jset_k hk').symm)] at hP
  exact kk p l e s m args below meth c H1 locs1 lsA C hz ⟨hP, hR.2.set32 hv⟩ hS1 hl
theorem e_iastw (q : Nat) {k j z v : Int} (hdg : decode cc pc = .ok (.iastore, 1)) (hk : jAr n k 13 z) (h0 : 0 ≤ j) (h1 : j < z) (hq : pc + 1 = q) (kk : gE X y cc mL ret R QF cells slots n N (jset M k j (w32 v)) q ls st) : gE X y cc mL ret R QF cells slots n N M pc ls (jI v :: jI j :: jR k :: st) := by
  subst hq
  intro p l e s m args below meth c H locs lsA C hz hR hS hl
  obtain ⟨ha, e1, e2⟩ := jarr (X := X) (N := N) (M := M) hk (by decide)
  have e3 : ∀ M : jM, jar X N M k = (z.toNat, .inl (fun j => Int32.ofInt (M k (j : Int)))) := by
    intro M
    unfold jar
    rw [e1, e2]
    rfl
  rw [e3] at ha
  have e4 : (Int32.ofInt j).toNatClampNeg = j.toNat := of_clamp h0 (by have := hk.2.2.2.2; omega)
  have e5 : ((j.toNat : Nat) : Int) = j := Int.toNat_of_nonneg h0
  refine va_iast C.1 C.2.1 C.2.2.2.2.2.2.2.2.2.1 hR.1 jws_D hS k.toNat 0 ha rfl (of_in h0 h1 hk.2.2.2.2) hdg (fun H1 locs1 hP hD hS1 => ?_)
  rw [e4] at hP
  have e6 : (upd (fun j => Int32.ofInt (M k (j : Int))) j.toNat (Int32.ofInt v) : Nat → Int32) = (fun i : Nat => Int32.ofInt (jset M k j (w32 v) k (i : Int))) := by
    funext i
    unfold upd jset
    by_cases hi : i = j.toNat
    · subst hi
      rw [if_pos rfl, if_pos ⟨rfl, e5⟩]
      exact (of_w32 v).symm
    · rw [if_neg hi, if_neg (fun q => hi (by omega))]
  rw [e6] at hP
  have e7 : (k.toNat : Int) = k := Int.toNat_of_nonneg hk.1
  have e8 : (Sum.inl (X.2.1 (13 - 13), z.toNat, .inl (fun i : Nat => Int32.ofInt (jset M k j (w32 v) k (i : Int)))) : va_E) = jcell X N (jset M k j (w32 v)) k := by
    unfold jcell
    rw [e1, if_neg (by decide), e3]
  rw [e8, jputA hk.1 (fun _ _ _ => rfl) (fun k' hk' i => (jset_k hk').symm)] at hP
  exact kk p l e s m args below meth c H1 locs1 lsA C hz ⟨hP, hR.2.set32 (w32_in v)⟩ hS1 hl
theorem e_bast (q : Nat) {k j z v : Int} (hdg : decode cc pc = .ok (.bastore, 1)) (hk : jAr n k 14 z) (h0 : 0 ≤ j) (h1 : j < z) (hq : pc + 1 = q) (kk : gE X y cc mL ret R QF cells slots n N (jset M k j (w8 v)) q ls st) : gE X y cc mL ret R QF cells slots n N M pc ls (jI v :: jI j :: jR k :: st) := by
  subst hq
  intro p l e s m args below meth c H locs lsA C hz hR hS hl
  obtain ⟨ha, e1, e2⟩ := jarr (X := X) (N := N) (M := M) hk (by decide)
  have e3 : ∀ M : jM, jar X N M k = (z.toNat, .inl (fun j => Int32.ofInt (M k (j : Int)))) := by
    intro M
    unfold jar
    rw [e1, e2]
    rfl
  rw [e3] at ha
  have e4 : (Int32.ofInt j).toNatClampNeg = j.toNat := of_clamp h0 (by have := hk.2.2.2.2; omega)
  have e5 : ((j.toNat : Nat) : Int) = j := Int.toNat_of_nonneg h0
  refine va_bast C.1 C.2.1 C.2.2.2.2.2.2.2.2.2.1 hR.1 jws_D hS k.toNat 1 ha rfl (of_in h0 h1 hk.2.2.2.2) hdg (fun H1 locs1 hP hD hS1 => ?_)
  rw [e4] at hP
  have e6 : (upd (fun j => Int32.ofInt (M k (j : Int))) j.toNat (vp_nar .byte (Int32.ofInt v)) : Nat → Int32) = (fun i : Nat => Int32.ofInt (jset M k j (w8 v) k (i : Int))) := by
    funext i
    unfold upd jset
    by_cases hi : i = j.toNat
    · subst hi
      rw [if_pos rfl, if_pos ⟨rfl, e5⟩]
      exact of_i2b v
    · rw [if_neg hi, if_neg (fun q => hi (by omega))]
  rw [e6] at hP
  have e7 : (k.toNat : Int) = k := Int.toNat_of_nonneg hk.1
  have e8 : (Sum.inl (X.2.1 (14 - 13), z.toNat, .inl (fun i : Nat => Int32.ofInt (jset M k j (w8 v) k (i : Int)))) : va_E) = jcell X N (jset M k j (w8 v)) k := by
    unfold jcell
    rw [e1, if_neg (by decide), e3]
  rw [e8, jputA hk.1 (fun _ _ _ => rfl) (fun k' hk' i => (jset_k hk').symm)] at hP
  exact kk p l e s m args below meth c H1 locs1 lsA C hz ⟨hP, hR.2.set32 (by unfold w8; omega)⟩ hS1 hl
theorem e_zast (q : Nat) {k j z v : Int} (hdg : decode cc pc = .ok (.bastore, 1)) (hk : jAr n k 15 z) (h0 : 0 ≤ j) (h1 : j < z) (hv : v = 0 ∨ v = 1) (hq : pc + 1 = q) (kk : gE X y cc mL ret R QF cells slots n N (jset M k j (v)) q ls st) : gE X y cc mL ret R QF cells slots n N M pc ls (jI v :: jI j :: jR k :: st) := by
  subst hq
  intro p l e s m args below meth c H locs lsA C hz hR hS hl
  obtain ⟨ha, e1, e2⟩ := jarr (X := X) (N := N) (M := M) hk (by decide)
  have e3 : ∀ M : jM, jar X N M k = (z.toNat, .inl (fun j => Int32.ofInt (M k (j : Int)))) := by
    intro M
    unfold jar
    rw [e1, e2]
    rfl
  rw [e3] at ha
  have e4 : (Int32.ofInt j).toNatClampNeg = j.toNat := of_clamp h0 (by have := hk.2.2.2.2; omega)
  have e5 : ((j.toNat : Nat) : Int) = j := Int.toNat_of_nonneg h0
  refine va_zast C.1 C.2.1 C.2.2.2.2.2.2.2.2.2.1 hR.1 jws_D hS k.toNat 2 ha rfl (of_in h0 h1 hk.2.2.2.2) hdg (fun H1 locs1 hP hD hS1 => ?_)
  rw [e4] at hP
  have e6 : (upd (fun j => Int32.ofInt (M k (j : Int))) j.toNat (vp_nar .boolean (Int32.ofInt v)) : Nat → Int32) = (fun i : Nat => Int32.ofInt (jset M k j (v) k (i : Int))) := by
    funext i
    unfold upd jset
    by_cases hi : i = j.toNat
    · subst hi
      rw [if_pos rfl, if_pos ⟨rfl, e5⟩]
      rcases hv with h | h <;> subst h <;> rfl
    · rw [if_neg hi, if_neg (fun q => hi (by omega))]
  rw [e6] at hP
  have e7 : (k.toNat : Int) = k := Int.toNat_of_nonneg hk.1
  have e8 : (Sum.inl (X.2.1 (15 - 13), z.toNat, .inl (fun i : Nat => Int32.ofInt (jset M k j (v) k (i : Int)))) : va_E) = jcell X N (jset M k j (v)) k := by
    unfold jcell
    rw [e1, if_neg (by decide), e3]
  rw [e8, jputA hk.1 (fun _ _ _ => rfl) (fun k' hk' i => (jset_k hk').symm)] at hP
  exact kk p l e s m args below meth c H1 locs1 lsA C hz ⟨hP, hR.2.set32 (by omega)⟩ hS1 hl
theorem e_last (q : Nat) {k j z v : Int} (hdg : decode cc pc = .ok (.lastore, 1)) (hk : jAr n k 16 z) (h0 : 0 ≤ j) (h1 : j < z) (hv : (-9223372036854775808 ≤ v ∧ v ≤ 9223372036854775807)) (hq : pc + 1 = q) (kk : gE X y cc mL ret R QF cells slots n N (jset M k j (v)) q ls st) : gE X y cc mL ret R QF cells slots n N M pc ls (jL v :: jI j :: jR k :: st) := by
  subst hq
  intro p l e s m args below meth c H locs lsA C hz hR hS hl
  obtain ⟨ha, e1, e2⟩ := jarr (X := X) (N := N) (M := M) hk (by decide)
  have e3 : ∀ M : jM, jar X N M k = (z.toNat, .inr (.inl (fun j => Int64.ofInt (M k (j : Int))))) := by
    intro M
    unfold jar
    rw [e1, e2]
    rfl
  rw [e3] at ha
  have e4 : (Int32.ofInt j).toNatClampNeg = j.toNat := of_clamp h0 (by have := hk.2.2.2.2; omega)
  have e5 : ((j.toNat : Nat) : Int) = j := Int.toNat_of_nonneg h0
  refine va_last C.1 C.2.1 C.2.2.2.2.2.2.2.2.2.1 hR.1 jws_D hS k.toNat 3 ha rfl (of_in h0 h1 hk.2.2.2.2) hdg (fun H1 locs1 hP hD hS1 => ?_)
  rw [e4] at hP
  have e6 : (vp_updL (fun j => Int64.ofInt (M k (j : Int))) j.toNat (Int64.ofInt v) : Nat → Int64) = (fun i : Nat => Int64.ofInt (jset M k j (v) k (i : Int))) := by
    funext i
    unfold vp_updL jset
    by_cases hi : i = j.toNat
    · subst hi
      rw [if_pos rfl, if_pos ⟨rfl, e5⟩]
    · rw [if_neg hi, if_neg (fun q => hi (by omega))]
  rw [e6] at hP
  have e7 : (k.toNat : Int) = k := Int.toNat_of_nonneg hk.1
  have e8 : (Sum.inl (X.2.1 (16 - 13), z.toNat, .inr (.inl (fun i : Nat => Int64.ofInt (jset M k j (v) k (i : Int))))) : va_E) = jcell X N (jset M k j (v)) k := by
    unfold jcell
    rw [e1, if_neg (by decide), e3]
  rw [e8, jputA hk.1 (fun _ _ _ => rfl) (fun k' hk' i => (jset_k hk').symm)] at hP
  exact kk p l e s m args below meth c H1 locs1 lsA C hz ⟨hP, hR.2.set hv (fun h => absurd e1 h)⟩ hS1 hl
theorem e_aald (q : Nat) {k j z k2 : Int} {ct : Nat} (hdg : decode cc pc = .ok (.aaload, 1)) (hk : jAr n k ct z) (hct : 17 ≤ ct ∧ ct < 24 ∧ ct ≠ 21) (h0 : 0 ≤ j) (h1 : j < z) (hN : N k j = some k2) (hq : pc + 1 = q) (kk : gE X y cc mL ret R QF cells slots n N M q ls (jR k2 :: st)) : gE X y cc mL ret R QF cells slots n N M pc ls (jI j :: jR k :: st) := by
  subst hq
  intro p l e s m args below meth c H locs lsA C hz hR hS hl
  obtain ⟨ha, e1, e2⟩ := jarr (X := X) (N := N) (M := M) hk (by omega)
  have e3 : jar X N M k = (z.toNat, .inr (.inr (.inr (.inr (fun j => jro X (N k (j : Int))))))) := by
    unfold jar
    rw [e1, e2, if_neg (by omega), if_neg (by omega)]
  rw [e3] at ha
  have e4 : (Int32.ofInt j).toNatClampNeg = j.toNat := of_clamp h0 (by have := hk.2.2.2.2; omega)
  have e5 : ((j.toNat : Nat) : Int) = j := Int.toNat_of_nonneg h0
  obtain ⟨C0, hC0⟩ : ∃ C0, (jtys X)[ct - 13]? = some (X.2.1 (ct - 13), .object C0) := by
    have : ct = 17 ∨ ct = 18 ∨ ct = 19 ∨ ct = 20 ∨ ct = 22 ∨ ct = 23 := by omega
    rcases this with h | h | h | h | h | h <;> subst h <;> exact ⟨_, rfl⟩
  refine va_aldq C.1 C.2.1 C.2.2.2.2.2.2.2.2.2.1 hR.1 k.toNat (ct - 13) ha hC0 (of_in h0 h1 hk.2.2.2.2) hdg ?_
  rw [e4]
  show W p l e R s m args below meth c H locs cells slots _ (F0 m (pc + 1) lsA (va_rf (jro X (N k ((j.toNat : Nat) : Int))) :: st.map (jv X)))
  rw [e5, hN]
  exact kk p l e s m args below meth c H locs lsA C hz hR hS hl
theorem e_aaldi (q : Nat) {k j z k2 : Int} (hdg : decode cc pc = .ok (.aaload, 1)) (hk : jAr n k 21 z) (h0 : 0 ≤ j) (h1 : j < z) (hN : N k j = some k2) (hq : pc + 1 = q) (kk : gE X y cc mL ret R QF cells slots n N M q ls (jR k2 :: st)) : gE X y cc mL ret R QF cells slots n N M pc ls (jI j :: jR k :: st) := by
  subst hq
  intro p l e s m args below meth c H locs lsA C hz hR hS hl
  obtain ⟨ha, e1, e2⟩ := jarr (X := X) (N := N) (M := M) hk (by omega)
  have e3 : jar X N M k = (z.toNat, .inr (.inr (.inr (.inr (fun j => jro X (N k (j : Int))))))) := by
    unfold jar
    rw [e1, e2, if_neg (by omega), if_neg (by omega)]
  rw [e3] at ha
  have e4 : (Int32.ofInt j).toNatClampNeg = j.toNat := of_clamp h0 (by have := hk.2.2.2.2; omega)
  have e5 : ((j.toNat : Nat) : Int) = j := Int.toNat_of_nonneg h0
  refine jald2 C.1 C.2.1 C.2.2.2.2.2.2.2.2.2.1 hR.1 k.toNat 8 ha rfl (of_in h0 h1 hk.2.2.2.2) hdg ?_
  rw [e4]
  show W p l e R s m args below meth c H locs cells slots _ (F0 m (pc + 1) lsA (va_rf (jro X (N k ((j.toNat : Nat) : Int))) :: st.map (jv X)))
  rw [e5, hN]
  exact kk p l e s m args below meth c H locs lsA C hz hR hS hl
theorem e_alen (q : Nat) {k z : Int} {ct : Nat} (hdg : decode cc pc = .ok (.arraylength, 1)) (hk : jAr n k ct z) (hct : 13 ≤ ct ∧ ct < 24) (hq : pc + 1 = q) (kk : gE X y cc mL ret R QF cells slots n N M q ls (jI z :: st)) : gE X y cc mL ret R QF cells slots n N M pc ls (jR k :: st) := by
  subst hq
  intro p l e s m args below meth c H locs lsA C hz hR hS hl
  obtain ⟨ha, e1, e2⟩ := jarr (X := X) (N := N) (M := M) hk (by omega)
  obtain ⟨ty0, hty0⟩ : ∃ ty0, (jtys X)[ct - 13]? = some (X.2.1 (ct - 13), ty0) := by
    refine ⟨jty (ct - 13), ?_⟩
    unfold jtys
    rw [List.getElem?_map, List.getElem?_range (by omega)]
    rfl
  have e3 : Int32.ofNat (jar X N M k).1 = Int32.ofInt z := by
    show Int32.ofNat (jsh k).2 = _
    rw [e2]
    apply Int32.toInt_inj.mp
    rw [to_of32, w32_id (by have := hk.2.2.2; omega)]
    have h2 := nI_toInt (n := z.toNat) (by have := hk.2.2.2; omega)
    unfold nI at h2
    rw [h2]
    have := hk.2.2.2.1
    omega
  exact va_alen C.1 C.2.1 C.2.2.2.2.2.2.2.2.2.1 hR.1 k.toNat (ct - 13) ha hty0 e3 hdg (kk p l e s m args below meth c H locs lsA C hz hR hS hl)
theorem e_getsN (q : Nat) {ix i : Nat} (hi : i < 6) (hw : (y.cls, ix, jzc i, jzn i, "[I", "BrassBalls") ∈ jnF) (hdg : decode cc pc = .ok (.getstatic ix, 3)) (hq : pc + 3 = q) (kk : gE X y cc mL ret R QF cells slots n N M q ls (jF i :: st)) : gE X y cc mL ret R QF cells slots n N M pc ls st := by
  subst hq
  intro p l e s m args below meth c H locs lsA C hz hR hS hl
  have hF := C.2.2.2.2.2.2.2.2.2.2
  exact va_getsN C.1 C.2.1 (hF.1 i hi).1 hS C.2.2.2.2.2.2.1 (va_Nw.use rfl (hF.2.2.2.2.2.2.2.1 _ hw)) (fun _ h => h) hdg (kk p l e s m args below meth c H locs lsA C hz hR hS hl)
theorem e_gets (q : Nat) {ix i : Nat} (hi : i < 6) (hw : Cond.fieldLink y.cls ix (jzc i) (jzn i) "[I" ∈ lw_g) (hdg : decode cc pc = .ok (.getstatic ix, 3)) (hq : pc + 3 = q) (kk : gE X y cc mL ret R QF cells slots n N M q ls (jF i :: st)) : gE X y cc mL ret R QF cells slots n N M pc ls st := by
  subst hq
  intro p l e s m args below meth c H locs lsA C hz hR hS hl
  have hF := C.2.2.2.2.2.2.2.2.2.2
  exact va_gets C.1 C.2.1 (hF.1 i hi).1 hS C.2.2.2.2.2.2.1 (C.2.2.2.2.2.2.2.1 _ hw) (fun _ h => h) hdg (kk p l e s m args below meth c H locs lsA C hz hR hS hl)
theorem e_tald (q : Nat) {i : Nat} {j : Int} (hi : i < 6) (hdg : decode cc pc = .ok (.iaload, 1)) (h0 : 0 ≤ j) (h1 : j.toNat < (jzt i).length) (hq : pc + 1 = q) (kk : gE X y cc mL ret R QF cells slots n N M q ls (jI ((jzt i).getD j.toNat 0) :: st)) : gE X y cc mL ret R QF cells slots n N M pc ls (jI j :: jF i :: st) := by
  subst hq
  intro p l e s m args below meth c H locs lsA C hz hR hS hl
  have hF := C.2.2.2.2.2.2.2.2.2.2
  obtain ⟨cell, f1, f2, f3, f4, f5, f6, f7⟩ := (hF.1 i hi).2.kept (H1 := H) (fun a h1 h2 => hS.2.1 a h1 h2)
  have hb : (jzt i).length < 8 := by
    have : i = 0 ∨ i = 1 ∨ i = 2 ∨ i = 3 ∨ i = 4 ∨ i = 5 := by omega
    rcases this with h | h | h | h | h | h <;> subst h <;> decide
  have e4 : (Int32.ofInt j).toNatClampNeg = j.toNat := of_clamp h0 (by omega)
  refine W.iald C.1 C.2.1 f1 f2 f3 (v := .int (Int32.ofInt ((jzt i).getD j.toNat 0))) ?_ ?_ rfl rfl hdg (kk p l e s m args below meth c H locs lsA C hz hR hS hl)
  · rw [e4]
    intro q
    rcases q with q | q
    · rw [of_zero32, of_lt32 (by omega) (by decide)] at q
      omega
    · omega
  · rw [e4, f6 _ h1]
theorem e_sald (q : Nat) {j : Int} (hdg : decode cc pc = .ok (.iaload, 1)) (h0 : 0 ≤ j) (h1 : j < (X.2.2.2.2.1 : Int)) (h2 : (X.2.2.2.2.1 : Int) < 100000) (hq : pc + 1 = q) (kk : gE X y cc mL ret R QF cells slots n N M q ls (jI (X.2.2.2.2.2 j.toNat).toInt :: st)) : gE X y cc mL ret R QF cells slots n N M pc ls (jI j :: jF 60 :: st) := by
  subst hq
  intro p l e s m args below meth c H locs lsA C hz hR hS hl
  have hF := C.2.2.2.2.2.2.2.2.2.2
  have hXs := hF.2.2.2.2.2.1
  have hX := hXs.kept (hS.2.1 _ (Array.getElem?_eq_some_iff.mp hXs.choose_spec.1).1 hF.2.2.2.2.2.2.1)
  obtain ⟨scr, f1, f2, f3, f4, f5⟩ := hX
  have e4 : (Int32.ofInt j).toNatClampNeg = j.toNat := of_clamp h0 (by omega)
  have hv : jv X (jI (X.2.2.2.2.2 j.toNat).toInt) = .int (X.2.2.2.2.2 j.toNat) := congrArg Value.int (of_to32 _)
  have h := kk p l e s m args below meth c H locs lsA C hz hR hS hl
  rw [List.map_cons, hv] at h
  refine W.iald C.1 C.2.1 f1 f2 f3 ?_ ?_ rfl rfl hdg h
  · rw [e4]
    intro q
    rcases q with q | q
    · rw [of_zero32, of_lt32 (by omega) (by decide)] at q
      omega
    · omega
  · rw [e4]
    exact f5 _ (by omega)
theorem e_slen (q : Nat) (hdg : decode cc pc = .ok (.arraylength, 1)) (h2 : (X.2.2.2.2.1 : Int) < 100000) (hq : pc + 1 = q) (kk : gE X y cc mL ret R QF cells slots n N M q ls (jI (X.2.2.2.2.1 : Int) :: st)) : gE X y cc mL ret R QF cells slots n N M pc ls (jF 60 :: st) := by
  subst hq
  intro p l e s m args below meth c H locs lsA C hz hR hS hl
  have hF := C.2.2.2.2.2.2.2.2.2.2
  have hXs := hF.2.2.2.2.2.1
  have hX := hXs.kept (hS.2.1 _ (Array.getElem?_eq_some_iff.mp hXs.choose_spec.1).1 hF.2.2.2.2.2.2.1)
  obtain ⟨scr, f1, f2, f3, f4, f5⟩ := hX
  refine W.alen C.1 C.2.1 f1 f2 (n := Int32.ofInt (X.2.2.2.2.1 : Int)) ?_ rfl rfl hdg (kk p l e s m args below meth c H locs lsA C hz hR hS hl)
  rw [f4]
  apply Int32.toInt_inj.mp
  rw [to_of32, w32_id (by omega)]
  exact nI_toInt (by omega)
theorem e_ldcS (q : Nat) {ix i : Nat} (hi : i < 21) (h1 : jso i = y.cls) (h2 : jsi i = ix) (hdg : decode cc pc = .ok (.ldc ix, 2)) (hq : pc + 2 = q) (kk : gE X y cc mL ret R QF cells slots n N M q ls (jF (6 + i) :: st)) : gE X y cc mL ret R QF cells slots n N M pc ls st := by
  subst hq
  intro p l e s m args below meth c H locs lsA C hz hR hS hl
  have hF := C.2.2.2.2.2.2.2.2.2.2
  have hZ := hF.2.2.1 i hi
  rw [h1, h2] at hZ
  exact va_ldcS C.1 C.2.1 C.2.2.2.2.2.2.1 hZ hdg (kk p l e s m args below meth c H locs lsA C hz hR hS hl)
end RF
