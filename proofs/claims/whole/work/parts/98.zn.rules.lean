/-! THE RULES: rows of arrays, references put *** va_mnaX is the printed va_mna with its addresses said -/
section VGN
variable {p : Program} {l : Launch} {e : Env} {R : Room} {s : State} {m : MethodId} {args : Array Value} {below : List Frame} {meth : Method} {c : Code} {H : Heap} {locs : List Loc} {cells slots : Nat} {Q : State → Prop}
variable {cc : ByteArray} {pc : Nat} {ls : Array Slot} {rest : List Value} {D : va_G} {cl : List vw_C} {A : Nat → Prop} {a : Nat} {tys : List (ClassId × FieldType)} {ws : va_W} {H0 : Heap}
theorem va_mnaX {X : va_W} {L : List Nat} {f : Nat → va_E} {cc : ByteArray} (hexec : p.tables.exec = Jvm.exec) (hb : c.code = cc) {own : String} {index : Nat} {ty : FieldType} {cy : ClassId} (hown : s.vm.findClass own = some m.cls) (hclink : (Cond.classLink own index ("[" ++ (FieldType.array ty).toString)).before args s = true) (hover : va_AOA ty s) (harr : (Cond.arrayClass ty).before args s = true) (hcy : s.vm.findClass (FieldType.array ty).toString = some cy)
    (hK : va_K D cl tys s) (hP : va_P D cl (X ++ va_pl L f) H) (hD : va_D A (X ++ va_pl L f)) (hS : va_S A H0 H locs) (hA : ∀ q, H0.size ≤ q → A q) {n k : Int32} {N' K' : Nat} {z : vp_A} (hn : ¬ n < 0) (hk : ¬ k < 0) (hN : n.toNatClampNeg = N') (hM : k.toNatClampNeg = K')
    (hb1 : N' * 4 ≤ 536870912) (hb2 : K' * componentBytes ty ≤ 536870912) (hb3 : K' ≤ 536870912) (hdf : fits ty (defaultValue ty) = true) (hdd : (defaultValue ty).isDefault = true) (hcells : cells + (1 + N') ≤ R.cells) (hslots : slots + (N' + N' * K') ≤ R.slots) (hz : ∀ c : ClassId, Jvm.Free.Multi.innerC c K' (defaultValue ty) = vp_cell c z) (hdg : decode cc pc = .ok (.multianewarray index 2, 4))
    (kk : ∀ (cA : ClassId) (H1 : Heap), va_K D cl (tys ++ [(cA, .array ty)]) s → va_P D cl (((X ++ va_pl L f) ++ [(H.size, .inl (cA, N', .inr (.inr (.inr (.inr (fun i => if i < N' then some (H.size + 1 + i) else none))))))]) ++ ((List.range N').map (fun i => H.size + 1 + i)).map (fun a => (a, .inl (cy, z)))) H1 → va_D A (((X ++ va_pl L f) ++ [(H.size, .inl (cA, N', .inr (.inr (.inr (.inr (fun i => if i < N' then some (H.size + 1 + i) else none))))))]) ++ ((List.range N').map (fun i => H.size + 1 + i)).map (fun a => (a, .inl (cy, z)))) → va_S A H0 H1 locs →
      W p l e R s m args below meth c H1 locs (cells + 1 + N') (slots + N' + N' * K') Q (F0 m (pc + 4) ls (.ref H.size :: rest))) : W p l e R s m args below meth c H locs cells slots Q (F0 m pc ls (.int k :: .int n :: rest)) := by
  subst hN
  subst hM
  intro T hT Xs
  obtain ⟨vm₁, cA, comp, -, fA, fC, hO, -, X', step⟩ := Xs.multianewarray2F hexec hown hclink (va_AOA.use hover) harr (g := F0 m pc ls (.int k :: .int n :: rest)) rfl (by rw [hb]; exact hdg) rfl hn hk hb1 hb2 hb3 hdf hdd hcells hslots
  have ec : some cy = some comp := hcy.symm.trans fC
  cases ec
  generalize hF : Jvm.Free.Multi.fill (T.setVm vm₁) cA cy n.toNatClampNeg k.toNatClampNeg (defaultValue ty) n.toNatClampNeg = F at X' step
  have hTh : (T.setVm vm₁).heap = H := hT
  obtain ⟨f1, f2, -, -⟩ := Jvm.Free.Multi.fill_facts (T.setVm vm₁) cA cy n.toNatClampNeg k.toNatClampNeg (defaultValue ty) n.toNatClampNeg
  rw [hF, hTh] at f1 f2
  have hold : ∀ x : Nat, x < H.size → F.heap[x]? = H[x]? := fun x hx => by
    have := Jvm.Free.Multi.fill_old (T.setVm vm₁) cA cy n.toNatClampNeg k.toNatClampNeg (defaultValue ty) (a := x) (by rw [hTh]; exact hx) n.toNatClampNeg
    rw [hF, hTh] at this
    exact this
  have hrow : ∀ j : Nat, j < n.toNatClampNeg → F.heap[H.size + 1 + j]? = some (vp_cell cy z) := fun j hj => by
    have := Jvm.Free.Multi.fill_inner (T.setVm vm₁) cA cy n.toNatClampNeg k.toNatClampNeg (defaultValue ty) n.toNatClampNeg j hj
    rw [hF, hTh, hz] at this
    exact this
  have hout : Jvm.Free.Multi.outerC cA n.toNatClampNeg H.size n.toNatClampNeg = vp_cell cA (n.toNatClampNeg, .inr (.inr (.inr (.inr (fun i => if i < n.toNatClampNeg then some (H.size + 1 + i) else none))))) := by
    rw [vp_cell_q]
    exact vr_outer cA n.toNatClampNeg H.size n.toNatClampNeg
  rw [hout] at f2
  have hlt : ∀ a, a ∈ L → a < H.size := fun a ha => by
    obtain ⟨k9, hk9⟩ := va_pl_get (X := X) (f := f) ha
    exact (hP k9 _ hk9).lt
  have hnl : ∀ i : Nat, i < n.toNatClampNeg → H.size + 1 + i ∉ L := fun i _ h => by
    have := hlt _ h
    omega
  have hnm : ∀ a, a ∈ (List.range n.toNatClampNeg).map (fun i => H.size + 1 + i) → a ∉ L := fun a ha h => by
    obtain ⟨i, -, rfl⟩ := List.mem_map.mp ha
    have := hlt _ h
    omega
  have hP0 : va_P D cl (X ++ va_pl L f) F.heap := hP.kept (fun k9 x hx => hold x.1 ((hP k9 x hx).lt))
  have hP1 : va_P D cl ((X ++ va_pl L f) ++ [(H.size, .inl (cA, n.toNatClampNeg, .inr (.inr (.inr (.inr (fun i => if i < n.toNatClampNeg then some (H.size + 1 + i) else none))))))]) F.heap := hP0.app (fun k9 x hx => by
    have h0 : k9 < 1 := (List.getElem?_eq_some_iff.mp hx).1
    rw [show k9 = 0 by omega] at hx
    cases hx
    exact f2)
  have hP2 : va_P D cl (((X ++ va_pl L f) ++ [(H.size, .inl (cA, n.toNatClampNeg, .inr (.inr (.inr (.inr (fun i => if i < n.toNatClampNeg then some (H.size + 1 + i) else none))))))]) ++ ((List.range n.toNatClampNeg).map (fun i => H.size + 1 + i)).map (fun a => (a, .inl (cy, z)))) F.heap := hP1.app (fun k9 x hx => by
    obtain ⟨a, ha, rfl⟩ := List.mem_map.mp (List.mem_of_getElem? hx)
    obtain ⟨i, hi, rfl⟩ := List.mem_map.mp ha
    exact hrow i (List.mem_range.mp hi))
  have hD2 : va_D A (((X ++ va_pl L f) ++ [(H.size, .inl (cA, n.toNatClampNeg, .inr (.inr (.inr (.inr (fun i => if i < n.toNatClampNeg then some (H.size + 1 + i) else none))))))]) ++ ((List.range n.toNatClampNeg).map (fun i => H.size + 1 + i)).map (fun a => (a, .inl (cy, z)))) := by
    have hD1 := hD.push (e := .inl (cA, n.toNatClampNeg, .inr (.inr (.inr (.inr (fun i => if i < n.toNatClampNeg then some (H.size + 1 + i) else none)))))) hP rfl (hA _ hS.1)
    generalize hW1 : (X ++ va_pl L f) ++ [(H.size, .inl (cA, n.toNatClampNeg, .inr (.inr (.inr (.inr (fun i => if i < n.toNatClampNeg then some (H.size + 1 + i) else none))))))] = W1 at hD1 hP1 ⊢
    have hle : ∀ (k9 : Nat) (x : Nat × va_E), W1[k9]? = some x → x.1 ≤ H.size := fun k9 x hx => by
      rw [← hW1] at hx
      by_cases hl : k9 < (X ++ va_pl L f).length
      · rw [List.getElem?_append_left hl] at hx
        exact Nat.le_of_lt ((hP k9 x hx).lt)
      · rw [List.getElem?_append_right (by omega)] at hx
        have h0 : k9 - (X ++ va_pl L f).length < 1 := (List.getElem?_eq_some_iff.mp hx).1
        rw [show k9 - (X ++ va_pl L f).length = 0 by omega] at hx
        cases hx
        exact Nat.le_refl _
    have hr : ∀ (k9 : Nat) (x : Nat × va_E), (((List.range n.toNatClampNeg).map (fun i => H.size + 1 + i)).map (fun a => ((a, .inl (cy, z)) : Nat × va_E)))[k9]? = some x → x.1 = H.size + 1 + k9 := fun k9 x hx => by
      rw [List.getElem?_map, List.getElem?_map] at hx
      by_cases h9 : k9 < n.toNatClampNeg
      · rw [List.getElem?_range h9] at hx
        cases hx
        rfl
      · have hn0 : (List.range n.toNatClampNeg)[k9]? = none := List.getElem?_eq_none (by rw [List.length_range]; omega)
        rw [hn0] at hx
        cases hx
    refine ⟨fun i j x y hi hj hxy => ?_, fun k9 x hx => ?_⟩
    · by_cases h1 : i < W1.length <;> by_cases h2 : j < W1.length
      · rw [List.getElem?_append_left h1] at hi
        rw [List.getElem?_append_left h2] at hj
        exact hD1.1 i j x y hi hj hxy
      · rw [List.getElem?_append_left h1] at hi
        rw [List.getElem?_append_right (by omega)] at hj
        have := hle _ _ hi
        have := hr _ _ hj
        omega
      · rw [List.getElem?_append_right (by omega)] at hi
        rw [List.getElem?_append_left h2] at hj
        have := hle _ _ hj
        have := hr _ _ hi
        omega
      · rw [List.getElem?_append_right (by omega)] at hi hj
        have := hr _ _ hi
        have := hr _ _ hj
        omega
    · by_cases h1 : k9 < W1.length
      · rw [List.getElem?_append_left h1] at hx
        exact hD1.2 k9 x hx
      · rw [List.getElem?_append_right (by omega)] at hx
        have := hr _ _ hx
        exact hA _ (by have := hS.1; omega)
  have hAr : ArrOfT s cA (.array ty) := fun N9 z9 => by
    obtain ⟨-, k9, hk9, cm9, hkk9⟩ := (hO 0 0 0).1
    exact ⟨(fun q hq => by cases hq), k9, hk9, cm9, hkk9⟩
  have hK2 : va_K D cl (tys ++ [(cA, .array ty)]) s := ⟨hK.1, fun k9 x hx => by
    by_cases hl : k9 < tys.length
    · rw [List.getElem?_append_left hl] at hx
      exact hK.2 k9 x hx
    · rw [List.getElem?_append_right (by omega)] at hx
      have h0 : k9 - tys.length < 1 := (List.getElem?_eq_some_iff.mp hx).1
      rw [show k9 - tys.length = 0 by omega] at hx
      cases hx
      exact ⟨hAr, fA⟩⟩
  obtain ⟨t, a1, b1⟩ := kk cA F.heap hK2 hP2 hD2 ⟨by rw [f1]; have := hS.1; omega, fun x h1 h2 => (hold x (Nat.lt_of_lt_of_le h1 hS.1)).trans (hS.2.1 x h1 h2), hS.2.2⟩ F rfl X'
  refine ⟨t, step t ?_, b1⟩
  have e : T.heap.size = H.size := by rw [hT]
  rw [e]
  exact a1
end VGN
section RO
variable {X : jX} {y : MethodName} {cc : ByteArray} {mL : Nat} {ret : Option FieldType} {R : Room} {QF : jQF} {cells slots n : Nat} {N : jN} {M : jM} {pc : Nat} {ls : List (Nat × jV)} {st : List jV}
theorem jws_add {X : jX} {N : jN} {M : jM} {a b : Nat} : jws X N M (a + b) = jws X N M a ++ (List.range b).map (fun i => (X.2.2.1 + (a + i), jcell X N M ((a + i : Nat) : Int))) := by
  unfold jws
  rw [List.range_add, List.map_append, List.map_map]
  rfl
theorem jws_cg {X : jX} {N N' : jN} {M M' : jM} {n : Nat} (hN : ∀ k : Int, 0 ≤ k → k < n → ∀ j, N k j = N' k j) (hM : ∀ k : Int, 0 ≤ k → k < n → ∀ j, M k j = M' k j) : jws X N M n = jws X N' M' n := by
  unfold jws
  refine List.map_congr_left (fun k hk => ?_)
  have h := List.mem_range.mp hk
  rw [jcell_ne (N := N) (N' := N') (M := M) (M' := M') (fun j => hN k (by omega) (by omega) j) (fun j => hM k (by omega) (by omega) j)]
def jrows (N : jN) (n z : Int) : jN := fun k j => if k = n ∧ 0 ≤ j ∧ j < z then some (n + 1 + j) else N k j
theorem e_mna (q : Nat) {ix : Nat} {z w : Int} (hcl : Cond.classLink y.cls ix ("[" ++ (FieldType.array .int).toString) ∈ lw_g) (hw : Cond.arrayClass .int ∈ lw_g) (hdg : decode cc pc = .ok (.multianewarray ix 2, 4)) (hz0 : 0 ≤ z ∧ z ≤ 1000) (hw0 : 0 ≤ w ∧ w ≤ 1000) (hsh : jsh (n : Int) = (21, z.toNat)) (hsr : ∀ i : Int, 0 ≤ i → i < z → jsh (n + 1 + i) = (13, w.toNat)) (hM0 : ∀ i j : Int, 0 ≤ i → i < z → M (n + 1 + i) j = 0) (hN0 : ∀ j, N n j = none) (hce : cells + (1 + z.toNat) ≤ R.cells) (hsl : slots + (z.toNat + z.toNat * w.toNat) ≤ R.slots) (hq : pc + 4 = q) (kk : gE X y cc mL ret R QF (cells + 1 + z.toNat) (slots + z.toNat + z.toNat * w.toNat) (n + 1 + z.toNat) (jrows N n z) M q ls (jR n :: st)) : gE X y cc mL ret R QF cells slots n N M pc ls (jI w :: jI z :: st) := by
  subst hq
  intro p l e s m args below meth c H locs lsA C hz hR hS hl
  have e4 : (Int32.ofInt z).toNatClampNeg = z.toNat := of_clamp hz0.1 (by omega)
  have e5 : (Int32.ofInt w).toNatClampNeg = w.toNat := of_clamp hw0.1 (by omega)
  have hF := C.2.2.2.2.2.2.2.2.2.2
  have hKK := C.2.2.2.2.2.2.2.2.2.1
  have eI : (jtys X)[0]? = some (X.2.1 0, jty 0) := rfl
  have hcy : s.vm.findClass (FieldType.array .int).toString = some (X.2.1 0) := (hKK.2 0 _ eI).2
  intro T hT Xs
  have hsz : H.size = X.2.2.1 + n := by
    subst hT
    exact jSize C.2.2.2.2.2.2.2.2.1 hz hR hS Xs
  have eP : va_P X.1 vwCl (jws X N M n ++ va_pl [] (fun _ => jcell X N M 0)) H := by
    rw [show va_pl [] (fun _ => jcell X N M 0) = [] from rfl, List.append_nil]
    exact hR.1
  have eD : va_D (jA X) (jws X N M n ++ va_pl [] (fun _ => jcell X N M 0)) := by
    rw [show va_pl [] (fun _ => jcell X N M 0) = [] from rfl, List.append_nil]
    exact jws_D
  refine va_mnaX C.1 C.2.1 (ty := .int) (cy := X.2.1 0) C.2.2.2.2.2.2.1 (C.2.2.2.2.2.2.2.1 _ hcl) hF.2.2.2.2.2.2.2.2.2.2 (C.2.2.2.2.2.2.2.1 _ hw) hcy hKK eP eD hS (fun q h => Nat.le_trans C.2.2.2.2.2.2.2.2.1 h) (z := (w.toNat, .inl (fun _ => 0))) ?_ ?_ e4 e5 ?_ ?_ ?_ rfl rfl hce hsl (fun c => arrV_new c _ _) hdg (fun cA H1 hK hP hD hS1 => ?_) T hT Xs
  · rw [of_zero32, of_lt32 (by omega) (by decide)]
    omega
  · rw [of_zero32, of_lt32 (by omega) (by decide)]
    omega
  · omega
  · show w.toNat * 4 ≤ _
    omega
  · omega
  · have ek : (jtys X ++ [(cA, FieldType.array .int)])[11]? = some (cA, FieldType.array .int) := by
      rw [List.getElem?_append_right (by rw [jty_len]; omega), jty_len]
      rfl
    have eA : cA = X.2.1 8 := jra hKK (by omega) (hK.2 11 _ ek).2
    subst eA
    have e0 : jcell X (jrows N n z) M (n : Int) = .inl (X.2.1 8, z.toNat, .inr (.inr (.inr (.inr (fun i => if i < z.toNat then some (H.size + 1 + i) else none))))) := by
      unfold jcell jar
      rw [hsh]
      have e1 : (fun j : Nat => jro X (jrows N n z n (j : Int))) = fun i => if i < z.toNat then some (H.size + 1 + i) else none := funext fun j => by
        unfold jrows
        by_cases c : j < z.toNat
        · rw [if_pos ⟨rfl, by omega, by omega⟩, if_pos c, hsz]
          show some (X.2.2.1 + ((n : Int) + 1 + (j : Int)).toNat) = _
          rw [show ((n : Int) + 1 + (j : Int)).toNat = n + 1 + j by omega]
          congr 1
          omega
        · rw [if_neg (by omega), if_neg c, hN0]
          rfl
      rw [e1]
      rfl
    have er : ∀ i : Nat, i < z.toNat → jcell X (jrows N n z) M ((n + 1 + i : Nat) : Int) = .inl (X.2.1 0, w.toNat, .inl (fun _ => 0)) := fun i hi => by
      have h1 := hsr i (by omega) (by omega)
      rw [show ((n + 1 + i : Nat) : Int) = (n : Int) + 1 + i by omega]
      unfold jcell jar
      rw [h1]
      have e1 : (fun j : Nat => Int32.ofInt (M ((n : Int) + 1 + i) (j : Int))) = fun _ => 0 := funext fun j => by
        rw [hM0 i j (by omega) (by omega)]
        rfl
      rw [e1]
      rfl
    have ew : jws X (jrows N n z) M (n + 1 + z.toNat) = (jws X N M n ++ va_pl [] (fun _ => jcell X N M 0)) ++ [(H.size, .inl (X.2.1 8, z.toNat, .inr (.inr (.inr (.inr (fun i => if i < z.toNat then some (H.size + 1 + i) else none))))))] ++ ((List.range z.toNat).map (fun i => H.size + 1 + i)).map (fun a => (a, .inl (X.2.1 0, w.toNat, .inl (fun _ => 0)))) := by
      rw [show va_pl [] (fun _ => jcell X N M 0) = [] from rfl, List.append_nil, jws_add, jws_succ, e0, ← hsz, List.map_map]
      rw [jws_cg (N := jrows N n z) (N' := N) (M := M) (M' := M) (n := n) (fun k a b j => by unfold jrows; rw [if_neg (by omega)]) (fun _ _ _ _ => rfl)]
      congr 1
      refine List.map_congr_left (fun i hi => ?_)
      have h := List.mem_range.mp hi
      show (X.2.2.1 + (n + 1 + i), jcell X (jrows N n z) M ((n + 1 + i : Nat) : Int)) = (H.size + 1 + i, _)
      rw [er i h, hsz]
      congr 1
      omega
    rw [← ew] at hP
    rw [hsz]
    exact kk p l e s m args below meth c H1 locs lsA C (by omega) ⟨hP, hR.2⟩ hS1 hl
end RO
