/-! THE RULES: new cells -/
section RN
variable {X : jX} {y : MethodName} {cc : ByteArray} {mL : Nat} {ret : Option FieldType} {R : Room} {QF : jQF} {cells slots n : Nat} {N : jN} {M : jM} {pc : Nat} {ls : List (Nat × jV)} {st : List jV}
theorem jws_succ {X : jX} {N : jN} {M : jM} {n : Nat} : jws X N M (n + 1) = jws X N M n ++ [(X.2.2.1 + n, jcell X N M (n : Int))] := by
  unfold jws
  rw [List.range_succ, List.map_append]
  rfl
/-- where a new cell lies -/
theorem jnew_at {p : Program} {l : Launch} {e : Env} {s : State} {m : MethodId} {args : Array Value} {below : List Frame} {meth : Method} {c : Code} {T : State} {locs : List Loc} {q : Nat} {en : va_E} (hz : s.heap.size + cells = X.2.2.1 + n) (hP : va_P X.1 vwCl (jws X N M n ++ [(q, en)]) T.heap) (hD : va_D (jA X) (jws X N M n ++ [(q, en)])) (Xs : Stand p l e R s m args below meth c T locs (cells + 1) slots) : q = X.2.2.1 + n := by
  have h1 := Xs.heapSize
  have e0 : (jws X N M n ++ [(q, en)])[n]? = some (q, en) := by
    rw [List.getElem?_append_right (by rw [jws_len]; omega), jws_len, Nat.sub_self]
    rfl
  have h2 := (hP n _ e0).lt
  have h3 : X.2.2.1 ≤ q := hD.2 n _ e0
  simp only at h2
  by_cases h : q = X.2.2.1 + n
  · exact h
  · exfalso
    have hi : q - X.2.2.1 < n := by omega
    have e1 : (jws X N M n ++ [(q, en)])[q - X.2.2.1]? = some (X.2.2.1 + (q - X.2.2.1), jcell X N M ((q - X.2.2.1 : Nat) : Int)) := by
      rw [List.getElem?_append_left (by rw [jws_len]; exact hi), jws_at hi]
    have h4 := hD.1 _ _ _ _ e0 e1 (by show q = X.2.2.1 + (q - X.2.2.1); omega)
    omega
theorem e_new (q : Nat) {ix ci : Nat} (hc : jCls ci) (hcl : Cond.classLink y.cls ix (jCn ci) ∈ lw_g) (hin : Cond.instantiable (jCn ci) (jnf ci) ∈ lw_g) (hini : Cond.initialized (jCn ci) ∈ lw_g) (hdg : decode cc pc = .ok (.new ix, 3)) (hsh : jsh (n : Int) = (ci, jnf ci)) (hM0 : ∀ j, M n j = 0) (hN0 : ∀ j, N n j = none) (hce : cells + 1 ≤ R.cells) (hsl : slots + jnf ci ≤ R.slots) (hq : pc + 3 = q) (kk : gE X y cc mL ret R QF (cells + 1) (slots + jnf ci) (n + 1) N M q ls (jR n :: st)) : gE X y cc mL ret R QF cells slots n N M pc ls st := by
  subst hq
  intro p l e s m args below meth c H locs lsA C hz hR hS hl
  refine va_new C.1 C.2.1 C.2.2.2.2.2.2.2.1 hc.2.2.1 (jTy ci) hc.2.2.2.1 C.2.2.2.2.2.2.1 (C.2.2.2.2.2.2.2.1 _ hcl) (C.2.2.2.2.2.2.2.1 _ hin) (C.2.2.2.2.2.2.2.1 _ hini) C.2.2.2.2.2.2.2.2.2.1 hR.1 jws_D hS (fun q h => Nat.le_trans C.2.2.2.2.2.2.2.2.1 h) hc.2.1 (fs := jfs X N M n ci) (fun j hj => ?_) hce hsl hdg (fun q H1 hP hD hS1 => ?_)
  · have h3 := hc.2.2.2.2.2 j hj
    have e1 : vp_V (jfs X N M n ci) j = jfv X N M n ci j := by
      unfold vp_V
      rw [List.getD_eq_getElem?_getD, jfs_at hj]
      rfl
    rw [e1]
    unfold jfv
    have h4 := h3.2.2.2
    by_cases c2 : jft ci j = 2
    · rw [if_pos c2, hN0]
      rcases h3.2.2.1 c2 with ⟨nm, e2⟩ | ⟨t, e2⟩ <;> rw [e2] <;> rfl
    · rw [if_neg c2, hM0]
      have c3 : jft ci j = 0 ∨ jft ci j = 1 := by omega
      rcases c3 with c3 | c3
      · rw [h3.1 c3]
        rfl
      · rw [h3.2.1 c3]
        rfl
  · intro T hT Xs
    subst hT
    have eq := jnew_at hz hP hD Xs
    subst eq
    have ec : jcell X N M (n : Int) = .inr (ci, jfs X N M n ci) := by
      unfold jcell
      rw [hsh, if_pos hc.1]
    rw [← ec, ← jws_succ] at hP
    exact kk p l e s m args below meth c _ locs lsA C (by omega) ⟨hP, hR.2⟩ hS1 hl T rfl Xs
theorem jra {X : jX} {s : State} {cA : ClassId} {t : Nat} (hK : va_K X.1 vwCl (jtys X) s) (ht : t < 11) (h : va_RA s cA (jty t)) : cA = X.2.1 t := by
  have e : (jtys X)[t]? = some (X.2.1 t, jty t) := by
    unfold jtys
    rw [List.getElem?_map, List.getElem?_range ht]
    rfl
  have h2 := (hK.2 t _ e).2
  have hc : t = 0 ∨ t = 1 ∨ t = 2 ∨ t = 3 ∨ t = 4 ∨ t = 5 ∨ t = 6 ∨ t = 7 ∨ t = 8 ∨ t = 9 ∨ t = 10 := by omega
  have key : ∀ (nm : String), s.vm.findClass nm = some cA → s.vm.findClass nm = some (X.2.1 t) → cA = X.2.1 t := fun nm a b => Option.some.inj (a.symm.trans b)
  rcases hc with e | e | e | e | e | e | e | e | e | e | e <;> subst e
  · exact key _ h h2
  · exact key _ h h2
  · exact key _ h h2
  · exact key _ h h2
  · exact key _ h.choose_spec.choose_spec.2.2.2 h2.choose_spec.choose_spec.2.2.2
  · exact key _ h.choose_spec.choose_spec.2.2.2 h2.choose_spec.choose_spec.2.2.2
  · exact key _ h.choose_spec.choose_spec.2.2.2 h2.choose_spec.choose_spec.2.2.2
  · exact key _ h.choose_spec.choose_spec.2.2.2 h2.choose_spec.choose_spec.2.2.2
  · exact key _ h h2
  · exact key _ h.choose_spec.choose_spec.2.2.2 h2.choose_spec.choose_spec.2.2.2
  · exact key _ h.choose_spec.choose_spec.2.2.2 h2.choose_spec.choose_spec.2.2.2
theorem jty_len {X : jX} : (jtys X).length = 11 := by
  unfold jtys
  rw [List.length_map, List.length_range]
theorem e_newarr (q : Nat) {t : Nat} {z : Int} {atype : ArrayType} (ht : t < 4) (hat : newarray.typeOf atype = jty t) (hw : Cond.arrayClass (newarray.typeOf atype) ∈ lw_g) (hdg : decode cc pc = .ok (.newarray atype, 2)) (hz0 : 0 ≤ z ∧ z ≤ 20000) (hsh : jsh (n : Int) = (13 + t, z.toNat)) (hM0 : ∀ j, M n j = 0) (hce : cells + 1 ≤ R.cells) (hsl : slots + z.toNat ≤ R.slots) (hq : pc + 2 = q) (kk : gE X y cc mL ret R QF (cells + 1) (slots + z.toNat) (n + 1) N M q ls (jR n :: st)) : gE X y cc mL ret R QF cells slots n N M pc ls (jI z :: st) := by
  subst hq
  intro p l e s m args below meth c H locs lsA C hz hR hS hl
  have e4 : (Int32.ofInt z).toNatClampNeg = z.toNat := of_clamp hz0.1 (by omega)
  have hcb : componentBytes (jty t) ≤ 8 := by
    have : t = 0 ∨ t = 1 ∨ t = 2 ∨ t = 3 := by omega
    rcases this with h | h | h | h <;> subst h <;> decide
  refine va_newa C.1 C.2.1 (C.2.2.2.2.2.2.2.1 _ hw) hat C.2.2.2.2.2.2.2.2.2.1 hR.1 jws_D hS (fun q h => Nat.le_trans C.2.2.2.2.2.2.2.2.1 h) (N' := z.toNat) (a0 := jar X N M n) (fun cA => ?_) ?_ e4 ?_ hce hsl hdg (fun q cA H1 hK hP hD hS1 => ?_)
  · unfold jar
    rw [hsh]
    have : t = 0 ∨ t = 1 ∨ t = 2 ∨ t = 3 := by omega
    have eM : (fun j : Nat => Int32.ofInt (M n (j : Int))) = fun _ => 0 := funext fun j => by rw [hM0]; rfl
    have eL : (fun j : Nat => Int64.ofInt (M n (j : Int))) = fun _ => 0 := funext fun j => by rw [hM0]; rfl
    rcases this with h | h | h | h <;> subst h
    · rw [if_pos (show 13 + 0 < 16 by decide), eM]
      rfl
    · rw [if_pos (show 13 + 1 < 16 by decide), eM]
      rfl
    · rw [if_pos (show 13 + 2 < 16 by decide), eM]
      rfl
    · rw [if_neg (show ¬ 13 + 3 < 16 by decide), if_pos (show 13 + 3 = 16 by rfl), eL]
      rfl
  · rw [of_zero32, of_lt32 (by omega) (by decide)]
    omega
  · have := Nat.mul_le_mul (show z.toNat ≤ 20000 by omega) hcb
    omega
  · intro T hT Xs
    subst hT
    have eq := jnew_at hz hP hD Xs
    subst eq
    have ek : (jtys X ++ [(cA, jty t)])[11]? = some (cA, jty t) := by
      rw [List.getElem?_append_right (by rw [jty_len]; omega), jty_len]
      rfl
    have eA := jra C.2.2.2.2.2.2.2.2.2.1 (by omega) (hK.2 11 _ ek).2
    subst eA
    have ec : jcell X N M (n : Int) = .inl (X.2.1 t, jar X N M n) := by
      unfold jcell
      rw [hsh, if_neg (by show ¬ 13 + t < 13; omega), show (13 + t, z.toNat).1 - 13 = t by show 13 + t - 13 = t; omega]
    rw [← ec, ← jws_succ] at hP
    exact kk p l e s m args below meth c _ locs lsA C (by omega) ⟨hP, hR.2⟩ hS1 hl T rfl Xs
end RN
