/-! THE RULES: arrays of references, references put, constructors called -/
section RP
variable {X : jX} {y : MethodName} {cc : ByteArray} {mL : Nat} {ret : Option FieldType} {R : Room} {QF : jQF} {cells slots n : Nat} {N : jN} {M : jM} {pc : Nat} {ls : List (Nat × jV)} {st : List jV}
theorem e_newq (q : Nat) {ix t : Nat} {z : Int} {C0 : String} (ht : t < 11) (ht4 : 4 ≤ t) (hty : jty t = .object C0) (hcl : Cond.classLink y.cls ix C0 ∈ lw_g) (hao : C0 ∈ jaO) (hdg : decode cc pc = .ok (.anewarray ix, 3)) (hz0 : 0 ≤ z ∧ z ≤ 20000) (hsh : jsh (n : Int) = (13 + t, z.toNat)) (hN0 : ∀ j, N n j = none) (hce : cells + 1 ≤ R.cells) (hsl : slots + z.toNat ≤ R.slots) (hq : pc + 3 = q) (kk : gE X y cc mL ret R QF (cells + 1) (slots + z.toNat) (n + 1) N M q ls (jR n :: st)) : gE X y cc mL ret R QF cells slots n N M pc ls (jI z :: st) := by
  subst hq
  intro p l e s m args below meth c H locs lsA C hz hR hS hl
  have e4 : (Int32.ofInt z).toNatClampNeg = z.toNat := of_clamp hz0.1 (by omega)
  have hF := C.2.2.2.2.2.2.2.2.2.2
  refine va_newq C.1 C.2.1 C.2.2.2.2.2.2.1 (C.2.2.2.2.2.2.2.1 _ hcl) (hF.2.2.2.2.2.2.2.2.2.1 _ hao) C.2.2.2.2.2.2.2.2.2.1 hR.1 jws_D hS (fun q h => Nat.le_trans C.2.2.2.2.2.2.2.2.1 h) (N' := z.toNat) ?_ e4 ?_ hce hsl hdg (fun q cA H1 hK hP hD hS1 => ?_)
  · rw [of_zero32, of_lt32 (by omega) (by decide)]
    omega
  · omega
  · intro T hT Xs
    subst hT
    have eq := jnew_at hz hP hD Xs
    subst eq
    have ek : (jtys X ++ [(cA, FieldType.object C0)])[11]? = some (cA, FieldType.object C0) := by
      rw [List.getElem?_append_right (by rw [jty_len]; omega), jty_len]
      rfl
    have eA : cA = X.2.1 t := jra C.2.2.2.2.2.2.2.2.2.1 ht (by rw [hty]; exact (hK.2 11 _ ek).2)
    subst eA
    have ec : jcell X N M (n : Int) = .inl (X.2.1 t, z.toNat, .inr (.inr (.inr (.inr (fun _ => none))))) := by
      unfold jcell jar
      rw [hsh, if_neg (by show ¬ 13 + t < 13; omega), show (13 + t, z.toNat).1 - 13 = t by show 13 + t - 13 = t; omega, if_neg (by show ¬ 13 + t < 16; omega), if_neg (by show ¬ 13 + t = 16; omega)]
      have e1 : (fun j : Nat => jro X (N n (j : Int))) = fun _ => none := funext fun j => by
        rw [hN0]
        rfl
      rw [e1]
    rw [← ec, ← jws_succ] at hP
    exact kk p l e s m args below meth c _ locs lsA C (by omega) ⟨hP, hR.2⟩ hS1 hl T rfl Xs
theorem jsetN_same {N : jN} {k j : Int} {v : Option Int} : jsetN N k j v k j = v := if_pos ⟨rfl, rfl⟩
theorem jsetN_k {N : jN} {k j k' j' : Int} {v : Option Int} (h : k' ≠ k) : jsetN N k j v k' j' = N k' j' := if_neg fun q => h q.1
theorem jsetN_j {N : jN} {k j k' j' : Int} {v : Option Int} (h : j' ≠ j) : jsetN N k j v k' j' = N k' j' := if_neg fun q => h q.2
theorem e_putr (q : Nat) {k j k2 : Int} {ix ci jn : Nat} (hf : jFld y.cls ix ci jn) (hdg : decode cc pc = .ok (.putfield ix, 3)) (hk : jAt n k ci) (hty : jft ci jn = 2) (hfi : (jT ci jn).2.2.2 = true) (hin : y.name = "<init>") (hde : (jT ci jn).1 = y.cls) (hj : (jn : Int) = j) (hq : pc + 3 = q) (kk : gE X y cc mL ret R QF cells slots n (jsetN N k j (some k2)) M q ls st) : gE X y cc mL ret R QF cells slots n N M pc ls (jR k2 :: jR k :: st) := by
  subst hq
  subst hj
  intro p l e s m args below meth c H locs lsA C hz hR hS hl
  obtain ⟨hc, hjn, hw⟩ := hf
  have hval : jfv X (jsetN N k (jn : Int) (some k2)) M k ci jn = jv X (jR k2) := by
    unfold jfv
    rw [if_pos hty, jsetN_same]
    rfl
  have hd := hc.2.2.2.1 jn hjn
  have hrf := jcls_ref hc hjn hty
  have hfit : narrow (jTy ci jn) (.ref (X.2.2.1 + k2.toNat)) = .ref (X.2.2.1 + k2.toNat) ∧ fits (jTy ci jn) (.ref (X.2.2.1 + k2.toNat)) = true := by
    rcases hrf with ⟨nm, h⟩ | ⟨t, h⟩ <;> rw [h] <;> exact ⟨rfl, rfl⟩
  refine va_putF C.1 C.2.1 C.2.2.2.2.2.2.2.1 hc.2.2.1 (jTy ci) hc.2.2.2.1 hc.2.2.2.2.1 C.2.2.2.2.2.2.1 C.2.2.2.2.2.2.2.2.2.1 hR.1 jws_D hS k.toNat (jat hk hc.1) hc.2.1 jn hjn (C.2.2.2.2.2.2.2.1 _ hw) (fun _ h => h) hfi (C.2.2.2.2.2.1.trans hin) hde hd hfit.1 hfit.2 (by rw [jfs_len]; exact hjn) hdg (fun H1 locs1 hP hD hS1 => ?_)
  rw [← hval, jput hk hc.1 (fun k' hk' j' => (jsetN_k hk').symm) (fun j' hj' => (jsetN_j hj').symm) (fun _ _ _ => rfl) (fun _ _ => rfl)] at hP
  exact kk p l e s m args below meth c H1 locs1 lsA C hz ⟨hP, hR.2⟩ hS1 hl
theorem e_astq (q : Nat) {k j k2 z : Int} {t ci : Nat} (hdg : decode cc pc = .ok (.aastore, 1)) (ht : 4 ≤ t ∧ t < 11) (hk : jAr n k (13 + t) z) (hc : jCls ci) (hty : jty t = .object (jCn ci)) (hk2 : jAt n k2 ci) (h0 : 0 ≤ j) (h1 : j < z) (hq : pc + 1 = q) (kk : gE X y cc mL ret R QF cells slots n (jsetN N k j (some k2)) M q ls st) : gE X y cc mL ret R QF cells slots n N M pc ls (jR k2 :: jI j :: jR k :: st) := by
  subst hq
  intro p l e s m args below meth c H locs lsA C hz hR hS hl
  obtain ⟨ha, e1, e2⟩ := jarr (X := X) (N := N) (M := M) hk (by omega)
  have e3 : jar X N M k = (z.toNat, .inr (.inr (.inr (.inr (fun j => jro X (N k (j : Int))))))) := by
    unfold jar
    rw [e1, e2, if_neg (by omega), if_neg (by omega)]
  rw [e3, show 13 + t - 13 = t by omega] at ha
  have e4 : (Int32.ofInt j).toNatClampNeg = j.toNat := of_clamp h0 (by have := hk.2.2.2.2; omega)
  have e5 : ((j.toNat : Nat) : Int) = j := Int.toNat_of_nonneg h0
  have hC0 : (jtys X)[t]? = some (X.2.1 t, .object (jCn ci)) := by
    unfold jtys
    rw [List.getElem?_map, List.getElem?_range (by omega), ← hty]
    rfl
  refine va_astq C.1 C.2.1 C.2.2.2.2.2.2.2.2.2.1 hR.1 jws_D hS k.toNat t k2.toNat ci (r := (jCn ci, jT ci, jnf ci)) ha hC0 (jat hk2 hc.1) hc.2.1 (of_in h0 h1 hk.2.2.2.2) hdg (fun H1 locs1 hP hD hS1 => ?_)
  have hcell : jcell X (jsetN N k j (some k2)) M k = .inl (X.2.1 t, z.toNat, .inr (.inr (.inr (.inr (va_up (fun j => jro X (N k (j : Int))) (Int32.ofInt j).toNatClampNeg (some (X.2.2.1 + k2.toNat))))))) := by
    unfold jcell jar
    rw [e1, e2, if_neg (by omega), if_neg (by omega), if_neg (by omega), show 13 + t - 13 = t by omega, e4]
    have e6 : (fun i : Nat => jro X (jsetN N k j (some k2) k (i : Int))) = va_up (fun j => jro X (N k (j : Int))) j.toNat (some (X.2.2.1 + k2.toNat)) := funext fun i => by
      unfold va_up
      by_cases c : i = j.toNat
      · rw [if_pos c, show (i : Int) = j by omega, jsetN_same]
        rfl
      · rw [if_neg c, jsetN_j (by omega)]
    rw [e6]
  rw [← hcell, jputA hk.1 (fun k' hk' j' => (jsetN_k hk').symm) (fun _ _ _ => rfl)] at hP
  exact kk p l e s m args below meth c H1 locs1 lsA C hz ⟨hP, hR.2⟩ hS1 hl
theorem e_objI (q : Nat) {k : Int} {ix : Nat} (hl : Cond.methodLink y.cls ix Lib.objectInit ∈ lw_g) (hin : Cond.instanceMethod Lib.objectInit ∈ lw_g) (hco : Cond.code Lib.objectInit ⟨#[0xb1]⟩ 1 none ∈ lw_g) (hdg : decode cc pc = .ok (.invokespecial ix, 3)) (hfr : 1 ≤ R.frames ∧ 100 ≤ R.locals) (hrest : (st.map jcat).sum ≤ 8) (hq : pc + 3 = q) (kk : gE X y cc mL ret R QF cells slots n N M q ls st) : gE X y cc mL ret R QF cells slots n N M pc ls (jR k :: st) := by
  subst hq
  intro p l e s m args below meth c H locs lsA C hz hR hS hll
  have e1 : ((st.map (jv X)).map fun v => v.category) = st.map jcat := by
    rw [List.map_map]
    apply List.map_congr_left
    intro v _
    exact jcat_eq X v
  refine W.objInit C.1 C.2.1 C.2.2.2.2.2.2.1 (C.2.2.2.2.2.2.2.1 _ hl) (C.2.2.2.2.2.2.2.1 _ hin) (C.2.2.2.2.2.2.2.1 _ hco) rfl (hll.1.trans C.2.2.1.symm) rfl hdg hfr.1 ?_ (kk p l e s m args below meth c H locs lsA C hz hR hS hll)
  rw [e1]
  show 2 * 0 + _ + 12 ≤ _
  omega
variable {y1 : MethodName} {cc1 : ByteArray} {mL1 : Nat} {ret1 : Option FieldType} {np d1 ix : Nat} {av rest : List jV}
theorem e_callI (q : Nat) {mc ms : Nat} {K : jK} (hm : jMth y1 cc1 mL1 none np) (hnm : y1.name = "<init>") (hv : Cond.instanceMethod y1 ∈ lw_g) (hl : (y.cls, ix, y1, "BrassBalls") ∈ jnM) (h80 : mL1 ≤ 80) (hdg : decode cc pc = .ok (.invokespecial ix, 3)) {k : Int} (hs : st = av.reverse ++ jR k :: rest) (hn : av.length = np) (hrest : (rest.map jcat).sum ≤ 8) (hr : jRoom R d1 mc ms cells slots) (hq : pc + 3 = q) (hM : jMet X y1 cc1 mL1 none d1 mc ms (jR k :: av) n N M K) (kk : ∀ (z : Int) (n2 : Nat) (N2 : jN) (M2 : jM), K z n2 N2 M2 → n2 = n + mc ∧ gE X y cc mL ret R QF (cells + mc) (slots + ms) n2 N2 M2 q ls rest) : gE X y cc mL ret R QF cells slots n N M pc ls st := by
  subst hq
  subst hs
  intro p l e s m args below meth c H locs lsA C hz hR hS hll
  have hcs : (rest.map jcat).sum ≤ 8 := hrest
  intro T hT Xs
  have hsz : H.size = X.2.2.1 + n := by subst hT; exact jSize C.2.2.2.2.2.2.2.2.1 hz hR hS Xs
  refine jRun (ret1 := none) (K := K) (rest := rest.map (jv X)) (va_runIN (As := av.map (jv X)) (rest := rest.map (jv X)) ⟨C.1, C.2.1, C.2.2.1, C.2.2.2.2.2.2.1, C.2.2.2.2.2.2.2.1⟩ (hM l) ⟨va_cnB np C.2.2.2.2.2.2.2.1 (jwd_good hm.1) rfl rfl rfl ((C.2.2.2.2.2.2.2.2.2.2 : jFz X s s.heap).2.2.2.2.2.2.2.2.1 _ hl) (C.2.2.2.2.2.2.2.1 _ hm.2.1) hm.2.2.1 ⟨hr.1, by show 8 + (mL1 + 11) + 100 * d1 ≤ R.locals; have := hr.2.1; omega⟩, hnm, C.2.2.2.2.2.2.2.1 _ hv⟩ ⟨jP_blind, jPre C hR hS hsz⟩ rfl (by rw [List.length_map]; exact hn) hll.1 (by show (av.reverse ++ jR k :: rest).map (jv X) = _; rw [jrevmap]; rfl) (by
    have e : ((rest.map (jv X)).map fun v => v.category) = rest.map jcat := by
      rw [List.map_map]
      apply List.map_congr_left
      intro v _
      exact jcat_eq X v
    rw [e]
    show 2 * 0 + _ ≤ 8
    omega) hdg ⟨hr.2.2.1, hr.2.2.2⟩) hS (fun z n2 N2 M2 H1 locs1 hK hR1 hS1 => ?_) T hT Xs
  obtain ⟨e1, h1⟩ := kk z n2 N2 M2 hK
  exact h1 p l e s m args below meth c H1 locs1 lsA C (by omega) hR1 hS1 hll
theorem e_callIL (q : Nat) {mc ms : Nat} {K : jK} (hm : jMth y1 cc1 mL1 none np) (hnm : y1.name = "<init>") (hv : Cond.instanceMethod y1 ∈ lw_g) (hl : Cond.methodLink y.cls ix y1 ∈ lw_g) (h80 : mL1 ≤ 80) (hdg : decode cc pc = .ok (.invokespecial ix, 3)) {k : Int} (hs : st = av.reverse ++ jR k :: rest) (hn : av.length = np) (hrest : (rest.map jcat).sum ≤ 8) (hr : jRoom R d1 mc ms cells slots) (hq : pc + 3 = q) (hM : jMet X y1 cc1 mL1 none d1 mc ms (jR k :: av) n N M K) (kk : ∀ (z : Int) (n2 : Nat) (N2 : jN) (M2 : jM), K z n2 N2 M2 → n2 = n + mc ∧ gE X y cc mL ret R QF (cells + mc) (slots + ms) n2 N2 M2 q ls rest) : gE X y cc mL ret R QF cells slots n N M pc ls st := by
  subst hq
  subst hs
  intro p l e s m args below meth c H locs lsA C hz hR hS hll
  have hcs : (rest.map jcat).sum ≤ 8 := hrest
  intro T hT Xs
  have hsz : H.size = X.2.2.1 + n := by subst hT; exact jSize C.2.2.2.2.2.2.2.2.1 hz hR hS Xs
  refine jRun (ret1 := none) (K := K) (rest := rest.map (jv X)) (va_runI (As := av.map (jv X)) (rest := rest.map (jv X)) ⟨C.1, C.2.1, C.2.2.1, C.2.2.2.2.2.2.1, C.2.2.2.2.2.2.2.1⟩ (hM l) ⟨jcb C hm hl h80 ⟨hr.1, hr.2.1⟩, hnm, C.2.2.2.2.2.2.2.1 _ hv⟩ ⟨jP_blind, jPre C hR hS hsz⟩ rfl (by rw [List.length_map]; exact hn) hll.1 (by show (av.reverse ++ jR k :: rest).map (jv X) = _; rw [jrevmap]; rfl) (by
    have e : ((rest.map (jv X)).map fun v => v.category) = rest.map jcat := by
      rw [List.map_map]
      apply List.map_congr_left
      intro v _
      exact jcat_eq X v
    rw [e]
    show 2 * 0 + _ ≤ 8
    omega) hdg ⟨hr.2.2.1, hr.2.2.2⟩) hS (fun z n2 N2 M2 H1 locs1 hK hR1 hS1 => ?_) T hT Xs
  obtain ⟨e1, h1⟩ := kk z n2 N2 M2 hK
  exact h1 p l e s m args below meth c H1 locs1 lsA C (by omega) hR1 hS1 hll
end RP
