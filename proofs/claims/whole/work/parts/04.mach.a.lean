/-! THE MINI MACHINE: values, cells, what holds of the heap -/
abbrev jV : Type := Int ⊕ (Int ⊕ (Int ⊕ (Nat ⊕ Value)))
abbrev jI (z : Int) : jV := Sum.inl z
abbrev jL (z : Int) : jV := Sum.inr (Sum.inl z)
abbrev jR (k : Int) : jV := Sum.inr (Sum.inr (Sum.inl k))
abbrev jF (k : Nat) : jV := Sum.inr (Sum.inr (Sum.inr (Sum.inl k)))
abbrev jW (v : Value) : jV := Sum.inr (Sum.inr (Sum.inr (Sum.inr v)))
abbrev jM : Type := Int → Int → Int
abbrev jN : Type := Int → Int → Option Int
/-- class ids and slots; array classes; the first cell's address; addresses of what is frozen; the script's length and ints -/
abbrev jX : Type := va_G × (Nat → ClassId) × Nat × (Nat → Nat) × Nat × (Nat → Int32)
def jA (X : jX) : Nat → Prop := fun q => X.2.2.1 ≤ q
def jv (X : jX) : jV → Value
  | Sum.inl z => .int (Int32.ofInt z)
  | Sum.inr (Sum.inl z) => .long (Int64.ofInt z)
  | Sum.inr (Sum.inr (Sum.inl k)) => .ref (X.2.2.1 + k.toNat)
  | Sum.inr (Sum.inr (Sum.inr (Sum.inl j))) => .ref (X.2.2.2.1 j)
  | Sum.inr (Sum.inr (Sum.inr (Sum.inr v))) => v
def jcat : jV → Nat
  | Sum.inl _ => 1
  | Sum.inr (Sum.inl _) => 2
  | Sum.inr (Sum.inr (Sum.inl _)) => 1
  | Sum.inr (Sum.inr (Sum.inr (Sum.inl _))) => 1
  | Sum.inr (Sum.inr (Sum.inr (Sum.inr v))) => v.category
theorem jcat_eq (X : jX) : ∀ v : jV, (jv X v).category = jcat v
  | Sum.inl _ => rfl
  | Sum.inr (Sum.inl _) => rfl
  | Sum.inr (Sum.inr (Sum.inl _)) => rfl
  | Sum.inr (Sum.inr (Sum.inr (Sum.inl _))) => rfl
  | Sum.inr (Sum.inr (Sum.inr (Sum.inr _))) => rfl
def jro (X : jX) (o : Option Int) : Option Nat := o.map (fun c => X.2.2.1 + c.toNat)
def jfv (X : jX) (N : jN) (M : jM) (k : Int) (ci j : Nat) : Value := if jft ci j = 2 then va_rf (jro X (N k j)) else .int (Int32.ofInt (M k j))
def jfs (X : jX) (N : jN) (M : jM) (k : Int) (ci : Nat) : List Value := (List.range (jnf ci)).map (jfv X N M k ci)
def jar (X : jX) (N : jN) (M : jM) (k : Int) : vp_A := ((jsh k).2, if (jsh k).1 < 16 then .inl (fun j => Int32.ofInt (M k (j : Int))) else if (jsh k).1 = 16 then .inr (.inl (fun j => Int64.ofInt (M k (j : Int)))) else .inr (.inr (.inr (.inr (fun j => jro X (N k (j : Int)))))))
def jcell (X : jX) (N : jN) (M : jM) (k : Int) : va_E := if (jsh k).1 < 13 then .inr ((jsh k).1, jfs X N M k (jsh k).1) else .inl (X.2.1 ((jsh k).1 - 13), jar X N M k)
def jws (X : jX) (N : jN) (M : jM) (n : Nat) : va_W := (List.range n).map (fun k => (X.2.2.1 + k, jcell X N M (k : Int)))
/-- the element type of an array's kind -/
def jty (t : Nat) : FieldType := match t with
  | 0 => .int
  | 1 => .byte
  | 2 => .boolean
  | 3 => .long
  | 4 => .object RX0
  | 5 => .object RX3
  | 6 => .object RX5
  | 7 => .object RX10
  | 8 => .array .int
  | 9 => .object RX8
  | _ => .object RX7
def jtys (X : jX) : List (ClassId × FieldType) := (List.range 11).map (fun t => (X.2.1 t, jty t))
/-- int cells hold ints, long cells longs -/
def jOk (M : jM) : Prop := ∀ k j : Int, (-9223372036854775808 ≤ M k j ∧ M k j ≤ 9223372036854775807) ∧ ((jsh k).1 ≠ 16 → -2147483648 ≤ M k j ∧ M k j ≤ 2147483647)
def jRel (X : jX) (n : Nat) (N : jN) (M : jM) (H : Heap) : Prop := va_P X.1 vwCl (jws X N M n) H ∧ jOk M
def jset (M : jM) (k j v : Int) : jM := fun k' j' => if k' = k ∧ j' = j then v else M k' j'
def jsetN (N : jN) (k j : Int) (v : Option Int) : jN := fun k' j' => if k' = k ∧ j' = j then v else N k' j'
theorem jset_same {M : jM} {k j v : Int} : jset M k j v k j = v := if_pos ⟨rfl, rfl⟩
theorem jset_k {M : jM} {k j v k' j' : Int} (h : k' ≠ k) : jset M k j v k' j' = M k' j' := if_neg fun q => h q.1
theorem jset_j {M : jM} {k j v k' j' : Int} (h : j' ≠ j) : jset M k j v k' j' = M k' j' := if_neg fun q => h q.2
theorem jOk.set {M : jM} (h : jOk M) {k j v : Int} (h1 : -9223372036854775808 ≤ v ∧ v ≤ 9223372036854775807) (h2 : (jsh k).1 ≠ 16 → -2147483648 ≤ v ∧ v ≤ 2147483647) : jOk (jset M k j v) := by
  intro k' j'
  unfold jset
  by_cases e : k' = k ∧ j' = j
  · rw [if_pos e, e.1]; exact ⟨h1, h2⟩
  · rw [if_neg e]; exact h k' j'
theorem jOk.set32 {M : jM} (h : jOk M) {k j v : Int} (h1 : -2147483648 ≤ v ∧ v ≤ 2147483647) : jOk (jset M k j v) := h.set (by omega) (fun _ => h1)
theorem jws_at {X : jX} {N : jN} {M : jM} {n k : Nat} (h : k < n) : (jws X N M n)[k]? = some (X.2.2.1 + k, jcell X N M (k : Int)) := by
  unfold jws
  rw [List.getElem?_map, List.getElem?_range h]
  rfl
theorem jws_len {X : jX} {N : jN} {M : jM} {n : Nat} : (jws X N M n).length = n := by simp [jws]
theorem jws_D {X : jX} {N : jN} {M : jM} {n : Nat} : va_D (jA X) (jws X N M n) := by
  have key : ∀ (i : Nat) (p : Nat × va_E), (jws X N M n)[i]? = some p → i < n ∧ p.1 = X.2.2.1 + i := by
    intro i p h
    have hi : i < n := by have := (List.getElem?_eq_some_iff.mp h).1; rwa [jws_len] at this
    rw [jws_at hi] at h
    cases h
    exact ⟨hi, rfl⟩
  refine ⟨fun i j p q hp hq e => ?_, fun k q hq => ?_⟩
  · have a := (key i p hp).2
    have b := (key j q hq).2
    omega
  · have a := (key k q hq).2
    unfold jA
    omega
theorem jcell_ne {X : jX} {N N' : jN} {M M' : jM} {k : Int} (h : ∀ j, N k j = N' k j) (h2 : ∀ j, M k j = M' k j) : jcell X N M k = jcell X N' M' k := by
  unfold jcell jfs jar
  have e : jfv X N M k = jfv X N' M' k := by
    funext ci j
    unfold jfv
    rw [h, h2]
  simp only [e, h, h2]
/-- the cells behind a change of one of them -/
theorem jws_set {X : jX} {N N' : jN} {M M' : jM} {n k : Nat} (hN : ∀ k' : Int, k' ≠ k → ∀ j, N k' j = N' k' j) (hM : ∀ k' : Int, k' ≠ k → ∀ j, M k' j = M' k' j) : (jws X N M n).set k (X.2.2.1 + k, jcell X N' M' (k : Int)) = jws X N' M' n := by
  apply List.ext_getElem?
  intro i
  by_cases hi : i < n
  · rw [jws_at hi, List.getElem?_set]
    by_cases e : k = i
    · subst e
      rw [if_pos rfl, if_pos (by rw [jws_len]; exact hi)]
    · rw [if_neg e, jws_at hi, jcell_ne (fun j => hN i (by omega) j) (fun j => hM i (by omega) j)]
  · rw [List.getElem?_eq_none (by rw [List.length_set, jws_len]; omega), List.getElem?_eq_none (by rw [jws_len]; omega)]
/-- the cell k is an object of class ci -/
def jAt (n : Nat) (k : Int) (ci : Nat) : Prop := 0 ≤ k ∧ k < n ∧ jsh k = (ci, jnf ci)
/-- the cell k is an array of kind c (13 ..) and length z -/
def jAr (n : Nat) (k : Int) (c : Nat) (z : Int) : Prop := 0 ≤ k ∧ k < n ∧ jsh k = (c, z.toNat) ∧ 0 ≤ z ∧ z < 2147483648
theorem jat {X : jX} {N : jN} {M : jM} {n ci : Nat} {k : Int} (h : jAt n k ci) (hc : ci < 13) : (jws X N M n)[k.toNat]? = some (X.2.2.1 + k.toNat, .inr (ci, jfs X N M k ci)) := by
  obtain ⟨h0, h1, h2⟩ := h
  rw [jws_at (by omega)]
  have e : ((k.toNat : Nat) : Int) = k := Int.toNat_of_nonneg h0
  rw [e]
  unfold jcell
  rw [h2, if_pos hc]
theorem jarr {X : jX} {N : jN} {M : jM} {n c : Nat} {k z : Int} (h : jAr n k c z) (hc : ¬ c < 13) : (jws X N M n)[k.toNat]? = some (X.2.2.1 + k.toNat, .inl (X.2.1 (c - 13), jar X N M k)) ∧ (jsh k).1 = c ∧ (jsh k).2 = z.toNat := by
  obtain ⟨h0, h1, h2, -⟩ := h
  refine ⟨?_, by rw [h2], by rw [h2]⟩
  rw [jws_at (by omega)]
  have e : ((k.toNat : Nat) : Int) = k := Int.toNat_of_nonneg h0
  rw [e]
  unfold jcell
  rw [h2, if_neg hc]
theorem jfs_at {X : jX} {N : jN} {M : jM} {k : Int} {ci j : Nat} (h : j < jnf ci) : (jfs X N M k ci)[j]? = some (jfv X N M k ci j) := by
  unfold jfs
  rw [List.getElem?_map, List.getElem?_range h]
  rfl
theorem jfs_len {X : jX} {N : jN} {M : jM} {k : Int} {ci : Nat} : (jfs X N M k ci).length = jnf ci := by simp [jfs]
theorem jfs_set {X : jX} {N N' : jN} {M M' : jM} {k : Int} {ci j : Nat} (hN : ∀ i : Int, i ≠ j → N k i = N' k i) (hM : ∀ i : Int, i ≠ j → M k i = M' k i) : (jfs X N M k ci).set j (jfv X N' M' k ci j) = jfs X N' M' k ci := by
  apply List.ext_getElem?
  intro i
  by_cases hi : i < jnf ci
  · rw [jfs_at hi, List.getElem?_set]
    by_cases e : j = i
    · subst e
      rw [if_pos rfl, if_pos (by rw [jfs_len]; exact hi)]
    · rw [if_neg e, jfs_at hi]
      unfold jfv
      rw [hN i (by omega), hM i (by omega)]
  · rw [List.getElem?_eq_none (by rw [List.length_set, jfs_len]; omega), List.getElem?_eq_none (by rw [jfs_len]; omega)]
/-! numbers -/
def w32 (z : Int) : Int := (z + 2147483648) % 4294967296 - 2147483648
def w64 (z : Int) : Int := (z + 9223372036854775808) % 18446744073709551616 - 9223372036854775808
theorem w32_id {z : Int} (h : -2147483648 ≤ z ∧ z ≤ 2147483647) : w32 z = z := by unfold w32; omega
theorem w64_id {z : Int} (h : -9223372036854775808 ≤ z ∧ z ≤ 9223372036854775807) : w64 z = z := by unfold w64; omega
theorem w32_in (z : Int) : -2147483648 ≤ w32 z ∧ w32 z ≤ 2147483647 := by unfold w32; omega
theorem w64_in (z : Int) : -9223372036854775808 ≤ w64 z ∧ w64 z ≤ 9223372036854775807 := by unfold w64; omega
theorem to_of32 (z : Int) : (Int32.ofInt z).toInt = w32 z := by
  rw [Int32.toInt_ofInt, show Int32.size = 4294967296 from rfl]
  unfold w32
  rw [Int.bmod_def]
  split <;> omega
theorem to_of64 (z : Int) : (Int64.ofInt z).toInt = w64 z := by
  rw [Int64.toInt_ofInt, show Int64.size = 18446744073709551616 from rfl]
  unfold w64
  rw [Int.bmod_def]
  split <;> omega
theorem of_w32 (z : Int) : Int32.ofInt (w32 z) = Int32.ofInt z := by
  apply Int32.toInt_inj.mp
  rw [to_of32, to_of32, w32_id (w32_in z)]
theorem of_w64 (z : Int) : Int64.ofInt (w64 z) = Int64.ofInt z := by
  apply Int64.toInt_inj.mp
  rw [to_of64, to_of64, w64_id (w64_in z)]
theorem of_inj32 {a b : Int} (ha : -2147483648 ≤ a ∧ a ≤ 2147483647) (hb : -2147483648 ≤ b ∧ b ≤ 2147483647) : Int32.ofInt a = Int32.ofInt b ↔ a = b := by
  constructor
  · intro h
    have := congrArg Int32.toInt h
    rwa [to_of32, to_of32, w32_id ha, w32_id hb] at this
  · intro h; rw [h]
theorem of_lt32 {a b : Int} (ha : -2147483648 ≤ a ∧ a ≤ 2147483647) (hb : -2147483648 ≤ b ∧ b ≤ 2147483647) : Int32.ofInt a < Int32.ofInt b ↔ a < b := by
  rw [Int32.lt_iff_toInt_lt, to_of32, to_of32, w32_id ha, w32_id hb]
theorem of_le32 {a b : Int} (ha : -2147483648 ≤ a ∧ a ≤ 2147483647) (hb : -2147483648 ≤ b ∧ b ≤ 2147483647) : Int32.ofInt a ≤ Int32.ofInt b ↔ a ≤ b := by
  rw [Int32.le_iff_toInt_le, to_of32, to_of32, w32_id ha, w32_id hb]
theorem of_lt64 {a b : Int} (ha : -9223372036854775808 ≤ a ∧ a ≤ 9223372036854775807) (hb : -9223372036854775808 ≤ b ∧ b ≤ 9223372036854775807) : Int64.ofInt a < Int64.ofInt b ↔ a < b := by
  rw [Int64.lt_iff_toInt_lt, to_of64, to_of64, w64_id ha, w64_id hb]
theorem of_clamp {z : Int} (h : 0 ≤ z) (h2 : z ≤ 2147483647) : (Int32.ofInt z).toNatClampNeg = z.toNat := by
  have e : (Int32.ofInt z).toNatClampNeg = (Int32.ofInt z).toInt.toNat := rfl
  rw [e, to_of32, w32_id (by omega)]
theorem of_zero32 : (0 : Int32) = Int32.ofInt 0 := rfl
theorem of_in {z n : Int} (h : 0 ≤ z) (h2 : z < n) (h3 : n < 2147483648) : vp_in (Int32.ofInt z) n.toNat := by
  rw [vp_in_iff, to_of32, w32_id (by omega)]
  omega
