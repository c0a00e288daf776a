/-! THE RULES: an instruction, a rule -/
theorem bmod32 (z : Int) : z.bmod (2 ^ 32) = w32 z := by
  unfold w32
  rw [Int.bmod_def]
  split <;> omega
theorem bmod64 (z : Int) : z.bmod (2 ^ 64) = w64 z := by
  unfold w64
  rw [Int.bmod_def]
  split <;> omega
theorem of_add32 (a b : Int) : Int32.ofInt a + Int32.ofInt b = Int32.ofInt (a + b) := by
  apply Int32.toInt_inj.mp
  rw [Int32.toInt_add, to_of32, to_of32, to_of32, bmod32]
  unfold w32; omega
theorem of_sub32 (a b : Int) : Int32.ofInt a - Int32.ofInt b = Int32.ofInt (a - b) := by
  apply Int32.toInt_inj.mp
  rw [Int32.toInt_sub, to_of32, to_of32, to_of32, bmod32]
  unfold w32; omega
theorem of_neg32 (a : Int) : -Int32.ofInt a = Int32.ofInt (-a) := by
  apply Int32.toInt_inj.mp
  rw [Int32.toInt_neg, to_of32, to_of32, bmod32]
  unfold w32; omega
theorem w32_emod (z : Int) : ∃ k : Int, w32 z = z + 4294967296 * k := ⟨-((z + 2147483648) / 4294967296), by unfold w32; omega⟩
theorem w64_emod (z : Int) : ∃ k : Int, w64 z = z + 18446744073709551616 * k := ⟨-((z + 9223372036854775808) / 18446744073709551616), by unfold w64; omega⟩
theorem w32_cong {a b k : Int} (h : a = b + 4294967296 * k) : w32 a = w32 b := by subst h; unfold w32; omega
theorem w64_cong {a b k : Int} (h : a = b + 18446744073709551616 * k) : w64 a = w64 b := by subst h; unfold w64; omega
theorem of_mul32 (a b : Int) : Int32.ofInt a * Int32.ofInt b = Int32.ofInt (a * b) := by
  apply Int32.toInt_inj.mp
  rw [Int32.toInt_mul, to_of32, to_of32, to_of32, bmod32]
  obtain ⟨k, hk⟩ := w32_emod a
  obtain ⟨j, hj⟩ := w32_emod b
  rw [hk, hj]
  refine w32_cong (k := a * j + k * b + 4294967296 * (k * j)) ?_
  have e1 : (a + 4294967296 * k) * (b + 4294967296 * j) = a * b + 4294967296 * (a * j + k * b + 4294967296 * (k * j)) := by
    rw [Int.add_mul, Int.mul_add, Int.mul_add, Int.mul_add, Int.mul_add, Int.mul_left_comm a, Int.mul_assoc 4294967296 k b, Int.mul_assoc 4294967296 k, Int.mul_left_comm k 4294967296 j]
    omega
  exact e1
theorem of_add64 (a b : Int) : Int64.ofInt a + Int64.ofInt b = Int64.ofInt (a + b) := by
  apply Int64.toInt_inj.mp
  rw [Int64.toInt_add, to_of64, to_of64, to_of64, bmod64]
  unfold w64; omega
theorem of_sub64 (a b : Int) : Int64.ofInt a - Int64.ofInt b = Int64.ofInt (a - b) := by
  apply Int64.toInt_inj.mp
  rw [Int64.toInt_sub, to_of64, to_of64, to_of64, bmod64]
  unfold w64; omega
theorem of_mul64 (a b : Int) : Int64.ofInt a * Int64.ofInt b = Int64.ofInt (a * b) := by
  apply Int64.toInt_inj.mp
  rw [Int64.toInt_mul, to_of64, to_of64, to_of64, bmod64]
  obtain ⟨k, hk⟩ := w64_emod a
  obtain ⟨j, hj⟩ := w64_emod b
  rw [hk, hj]
  refine w64_cong (k := a * j + k * b + 18446744073709551616 * (k * j)) ?_
  have e1 : (a + 18446744073709551616 * k) * (b + 18446744073709551616 * j) = a * b + 18446744073709551616 * (a * j + k * b + 18446744073709551616 * (k * j)) := by
    rw [Int.add_mul, Int.mul_add, Int.mul_add, Int.mul_add, Int.mul_add, Int.mul_left_comm a, Int.mul_assoc 18446744073709551616 k b, Int.mul_assoc 18446744073709551616 k, Int.mul_left_comm k 18446744073709551616 j]
    omega
  exact e1
theorem of_div32 {a b : Int} (ha : -2147483648 ≤ a ∧ a ≤ 2147483647) (hb : -2147483648 ≤ b ∧ b ≤ 2147483647) : Int32.ofInt a / Int32.ofInt b = Int32.ofInt (a.tdiv b) := by
  apply Int32.toInt_inj.mp
  rw [Int32.toInt_div, to_of32, to_of32, to_of32, w32_id ha, w32_id hb, bmod32]
theorem of_mod32 {a b : Int} (ha : -2147483648 ≤ a ∧ a ≤ 2147483647) (hb : -2147483648 ≤ b ∧ b ≤ 2147483647) : Int32.ofInt a % Int32.ofInt b = Int32.ofInt (a.tmod b) := by
  apply Int32.toInt_inj.mp
  have h : (Int32.ofInt a % Int32.ofInt b).toInt = a.tmod b := by rw [Int32.toInt_mod, to_of32, to_of32, w32_id ha, w32_id hb]
  rw [h, to_of32]
  have h2 := (Int32.ofInt a % Int32.ofInt b).toInt_lt
  have h3 := (Int32.ofInt a % Int32.ofInt b).le_toInt
  rw [h] at h2 h3
  rw [w32_id (by omega)]
theorem of_div64 {a b : Int} (ha : -9223372036854775808 ≤ a ∧ a ≤ 9223372036854775807) (hb : -9223372036854775808 ≤ b ∧ b ≤ 9223372036854775807) : Int64.ofInt a / Int64.ofInt b = Int64.ofInt (a.tdiv b) := by
  apply Int64.toInt_inj.mp
  rw [Int64.toInt_div, to_of64, to_of64, to_of64, w64_id ha, w64_id hb, bmod64]
theorem of_mod64 {a b : Int} (ha : -9223372036854775808 ≤ a ∧ a ≤ 9223372036854775807) (hb : -9223372036854775808 ≤ b ∧ b ≤ 9223372036854775807) : Int64.ofInt a % Int64.ofInt b = Int64.ofInt (a.tmod b) := by
  apply Int64.toInt_inj.mp
  have h : (Int64.ofInt a % Int64.ofInt b).toInt = a.tmod b := by rw [Int64.toInt_mod, to_of64, to_of64, w64_id ha, w64_id hb]
  rw [h, to_of64]
  have h2 := (Int64.ofInt a % Int64.ofInt b).toInt_lt
  have h3 := (Int64.ofInt a % Int64.ofInt b).le_toInt
  rw [h] at h2 h3
  rw [w64_id (by omega)]
theorem of_to32 (x : Int32) : Int32.ofInt x.toInt = x := by
  apply Int32.toInt_inj.mp
  rw [to_of32, w32_id]
  have h2 := x.toInt_lt
  have h3 := x.le_toInt
  omega
theorem of_to64 (x : Int64) : Int64.ofInt x.toInt = x := by
  apply Int64.toInt_inj.mp
  rw [to_of64, w64_id]
  have h2 := x.toInt_lt
  have h3 := x.le_toInt
  omega
theorem of_wide {z : Int} (h : -2147483648 ≤ z ∧ z ≤ 2147483647) : (Int32.ofInt z).toInt64 = Int64.ofInt z := by
  apply Int64.toInt_inj.mp
  rw [Int32.toInt_toInt64, to_of32, to_of64, w32_id h, w64_id (by omega)]
theorem of_narrow (z : Int) : (Int64.ofInt z).toInt32 = Int32.ofInt z := by
  apply Int32.toInt_inj.mp
  rw [Int64.toInt_toInt32, to_of64, to_of32, bmod32]
  unfold w32 w64; omega
def w8 (z : Int) : Int := (z + 128) % 256 - 128
def w16 (z : Int) : Int := (z + 32768) % 65536 - 32768
theorem of_i2b (z : Int) : (Int32.ofInt z).toInt8.toInt32 = Int32.ofInt (w8 z) := by
  apply Int32.toInt_inj.mp
  rw [Int8.toInt_toInt32, Int32.toInt_toInt8, to_of32, to_of32, Int.bmod_def]
  unfold w8 w32; split <;> omega
theorem of_i2s (z : Int) : (Int32.ofInt z).toInt16.toInt32 = Int32.ofInt (w16 z) := by
  apply Int32.toInt_inj.mp
  rw [Int16.toInt_toInt32, Int32.toInt_toInt16, to_of32, to_of32, Int.bmod_def]
  unfold w16 w32; split <;> omega
theorem of_bipush {z : Int} (h : -128 ≤ z ∧ z ≤ 127) : (Int8.ofInt z).toInt32 = Int32.ofInt z := by
  apply Int32.toInt_inj.mp
  rw [Int8.toInt_toInt32, Int8.toInt_ofInt, show Int8.size = 256 from rfl, to_of32, Int.bmod_def]
  unfold w32; split <;> omega
theorem of_sipush {z : Int} (h : -32768 ≤ z ∧ z ≤ 32767) : (Int16.ofInt z).toInt32 = Int32.ofInt z := by
  apply Int32.toInt_inj.mp
  rw [Int16.toInt_toInt32, Int16.toInt_ofInt, show Int16.size = 65536 from rfl, to_of32, Int.bmod_def]
  unfold w32; split <;> omega
theorem of_inj64 {a b : Int} (ha : -9223372036854775808 ≤ a ∧ a ≤ 9223372036854775807) (hb : -9223372036854775808 ≤ b ∧ b ≤ 9223372036854775807) : Int64.ofInt a = Int64.ofInt b ↔ a = b := by
  constructor
  · intro h
    have := congrArg Int64.toInt h
    rwa [to_of64, to_of64, w64_id ha, w64_id hb] at this
  · intro h; rw [h]
def jand (a b : Int) : Int := (Int32.ofInt a &&& Int32.ofInt b).toInt
def jor (a b : Int) : Int := (Int32.ofInt a ||| Int32.ofInt b).toInt
def jxor (a b : Int) : Int := (Int32.ofInt a ^^^ Int32.ofInt b).toInt
def jshl (a b : Int) : Int := (Int32.ofInt a <<< (Int32.ofInt b &&& 31)).toInt
def jshr (a b : Int) : Int := (Int32.ofInt a >>> (Int32.ofInt b &&& 31)).toInt
def jushr (a b : Int) : Int := ((Int32.ofInt a).toUInt32 >>> ((Int32.ofInt b).toUInt32 &&& Int32.toUInt32 31)).toInt32.toInt
def jandL (a b : Int) : Int := (Int64.ofInt a &&& Int64.ofInt b).toInt
def jorL (a b : Int) : Int := (Int64.ofInt a ||| Int64.ofInt b).toInt
def jxorL (a b : Int) : Int := (Int64.ofInt a ^^^ Int64.ofInt b).toInt
def jshlL (a b : Int) : Int := (Int64.ofInt a <<< ((Int32.ofInt b).toInt64 &&& 63)).toInt
def jshrL (a b : Int) : Int := (Int64.ofInt a >>> ((Int32.ofInt b).toInt64 &&& 63)).toInt
section RU
variable {X : jX} {y : MethodName} {cc : ByteArray} {mL : Nat} {ret : Option FieldType} {R : Room} {QF : jQF} {cells slots n : Nat} {N : jN} {M : jM} {pc : Nat} {ls : List (Nat × jV)} {st : List jV}
theorem e_iconst (q : Nat) {z : Int} (hdg : decode cc pc = .ok (.iconst z, 1)) (hq : pc + 1 = q) (kk : gE X y cc mL ret R QF cells slots n N M q ls (jI z :: st)) : gE X y cc mL ret R QF cells slots n N M pc ls st := by
  subst hq
  intro p l e s m args below meth c H locs lsA C hz hR hS hl
  exact lv_iconst C.1 C.2.1 hdg rfl (kk p l e s m args below meth c H locs lsA C hz hR hS hl)
theorem e_bipush (q : Nat) {z : Int} (hdg : decode cc pc = .ok (.bipush z, 2)) (hzz : -128 ≤ z ∧ z ≤ 127) (hq : pc + 2 = q) (kk : gE X y cc mL ret R QF cells slots n N M q ls (jI z :: st)) : gE X y cc mL ret R QF cells slots n N M pc ls st := by
  subst hq
  intro p l e s m args below meth c H locs lsA C hz hR hS hl
  exact lv_bipush C.1 C.2.1 hdg (of_bipush hzz) (kk p l e s m args below meth c H locs lsA C hz hR hS hl)
theorem e_sipush (q : Nat) {z : Int} (hdg : decode cc pc = .ok (.sipush z, 3)) (hzz : -32768 ≤ z ∧ z ≤ 32767) (hq : pc + 3 = q) (kk : gE X y cc mL ret R QF cells slots n N M q ls (jI z :: st)) : gE X y cc mL ret R QF cells slots n N M pc ls st := by
  subst hq
  intro p l e s m args below meth c H locs lsA C hz hR hS hl
  exact lv_sipush C.1 C.2.1 hdg (of_sipush hzz) (kk p l e s m args below meth c H locs lsA C hz hR hS hl)
theorem e_lconst0 (q : Nat) (hdg : decode cc pc = .ok (.lconst 0, 1)) (hq : pc + 1 = q) (kk : gE X y cc mL ret R QF cells slots n N M q ls (jL 0 :: st)) : gE X y cc mL ret R QF cells slots n N M pc ls st := by
  subst hq
  intro p l e s m args below meth c H locs lsA C hz hR hS hl
  exact lv_lconst C.1 C.2.1 hdg rfl (kk p l e s m args below meth c H locs lsA C hz hR hS hl)
theorem e_lconst1 (q : Nat) (hdg : decode cc pc = .ok (.lconst 1, 1)) (hq : pc + 1 = q) (kk : gE X y cc mL ret R QF cells slots n N M q ls (jL 1 :: st)) : gE X y cc mL ret R QF cells slots n N M pc ls st := by
  subst hq
  intro p l e s m args below meth c H locs lsA C hz hR hS hl
  exact lv_lconst C.1 C.2.1 hdg rfl (kk p l e s m args below meth c H locs lsA C hz hR hS hl)
theorem e_ldc (q : Nat) {ix : Nat} {z : Int} {v : Int32} (hw : Cond.constant y.cls ix v ∈ lw_g) (hv : v = Int32.ofInt z) (hdg : decode cc pc = .ok (.ldc ix, 2)) (hq : pc + 2 = q) (kk : gE X y cc mL ret R QF cells slots n N M q ls (jI z :: st)) : gE X y cc mL ret R QF cells slots n N M pc ls st := by
  subst hq
  subst hv
  intro p l e s m args below meth c H locs lsA C hz hR hS hl
  exact W.ldc C.1 C.2.1 C.2.2.2.2.2.2.1 (C.2.2.2.2.2.2.2.1 _ hw) rfl hdg (kk p l e s m args below meth c H locs lsA C hz hR hS hl)
theorem e_ldc2 (q : Nat) {ix : Nat} {z : Int} {v : Int64} (hw : Cond.constantLong y.cls ix v ∈ lw_g) (hv : v = Int64.ofInt z) (hdg : decode cc pc = .ok (.ldc2_w ix, 3)) (hq : pc + 3 = q) (kk : gE X y cc mL ret R QF cells slots n N M q ls (jL z :: st)) : gE X y cc mL ret R QF cells slots n N M pc ls st := by
  subst hq
  subst hv
  intro p l e s m args below meth c H locs lsA C hz hR hS hl
  exact W.ldc2 C.1 C.2.1 C.2.2.2.2.2.2.1 (C.2.2.2.2.2.2.2.1 _ hw) rfl hdg (kk p l e s m args below meth c H locs lsA C hz hR hS hl)
theorem e_iload_n (q : Nat) {f : Fin 4} {i : Nat} {z : Int} (hdg : decode cc pc = .ok (.iload_n f, 1)) (hi : (f : Nat) = i) (hk : jlk ls i = some (jI z)) (hq : pc + 1 = q) (kk : gE X y cc mL ret R QF cells slots n N M q ls (jI z :: st)) : gE X y cc mL ret R QF cells slots n N M pc ls st := by
  subst hq
  intro p l e s m args below meth c H locs lsA C hz hR hS hl
  exact lv_iload_n C.1 C.2.1 hdg hi (jlv_at hl hk) (kk p l e s m args below meth c H locs lsA C hz hR hS hl)
theorem e_iload (q : Nat) {i : Nat} {z : Int} (hdg : decode cc pc = .ok (.iload i, 2)) (hk : jlk ls i = some (jI z)) (hq : pc + 2 = q) (kk : gE X y cc mL ret R QF cells slots n N M q ls (jI z :: st)) : gE X y cc mL ret R QF cells slots n N M pc ls st := by
  subst hq
  intro p l e s m args below meth c H locs lsA C hz hR hS hl
  exact lv_iload C.1 C.2.1 hdg (jlv_at hl hk) (kk p l e s m args below meth c H locs lsA C hz hR hS hl)
theorem e_lload_n (q : Nat) {f : Fin 4} {i : Nat} {z : Int} (hdg : decode cc pc = .ok (.lload_n f, 1)) (hi : (f : Nat) = i) (hk : jlk ls i = some (jL z)) (hq : pc + 1 = q) (kk : gE X y cc mL ret R QF cells slots n N M q ls (jL z :: st)) : gE X y cc mL ret R QF cells slots n N M pc ls st := by
  subst hq
  intro p l e s m args below meth c H locs lsA C hz hR hS hl
  exact lv_lload_n C.1 C.2.1 hdg hi (jlv_at hl hk) (kk p l e s m args below meth c H locs lsA C hz hR hS hl)
theorem e_lload (q : Nat) {i : Nat} {z : Int} (hdg : decode cc pc = .ok (.lload i, 2)) (hk : jlk ls i = some (jL z)) (hq : pc + 2 = q) (kk : gE X y cc mL ret R QF cells slots n N M q ls (jL z :: st)) : gE X y cc mL ret R QF cells slots n N M pc ls st := by
  subst hq
  intro p l e s m args below meth c H locs lsA C hz hR hS hl
  exact lv_lload C.1 C.2.1 hdg (jlv_at hl hk) (kk p l e s m args below meth c H locs lsA C hz hR hS hl)
theorem e_aload_n (q : Nat) {f : Fin 4} {i : Nat} {k : Int} (hdg : decode cc pc = .ok (.aload_n f, 1)) (hi : (f : Nat) = i) (hk : jlk ls i = some (jR k)) (hq : pc + 1 = q) (kk : gE X y cc mL ret R QF cells slots n N M q ls (jR k :: st)) : gE X y cc mL ret R QF cells slots n N M pc ls st := by
  subst hq
  intro p l e s m args below meth c H locs lsA C hz hR hS hl
  exact lv_aload_n C.1 C.2.1 hdg hi (jlv_at hl hk) (kk p l e s m args below meth c H locs lsA C hz hR hS hl)
theorem e_aload (q : Nat) {i : Nat} {k : Int} (hdg : decode cc pc = .ok (.aload i, 2)) (hk : jlk ls i = some (jR k)) (hq : pc + 2 = q) (kk : gE X y cc mL ret R QF cells slots n N M q ls (jR k :: st)) : gE X y cc mL ret R QF cells slots n N M pc ls st := by
  subst hq
  intro p l e s m args below meth c H locs lsA C hz hR hS hl
  exact lv_aload C.1 C.2.1 hdg (jlv_at hl hk) (kk p l e s m args below meth c H locs lsA C hz hR hS hl)
theorem e_aloadF_n (q : Nat) {f : Fin 4} {i : Nat} {k : Nat} (hdg : decode cc pc = .ok (.aload_n f, 1)) (hi : (f : Nat) = i) (hk : jlk ls i = some (jF k)) (hq : pc + 1 = q) (kk : gE X y cc mL ret R QF cells slots n N M q ls (jF k :: st)) : gE X y cc mL ret R QF cells slots n N M pc ls st := by
  subst hq
  intro p l e s m args below meth c H locs lsA C hz hR hS hl
  exact lv_aload_n C.1 C.2.1 hdg hi (jlv_at hl hk) (kk p l e s m args below meth c H locs lsA C hz hR hS hl)
theorem e_aloadF (q : Nat) {i : Nat} {k : Nat} (hdg : decode cc pc = .ok (.aload i, 2)) (hk : jlk ls i = some (jF k)) (hq : pc + 2 = q) (kk : gE X y cc mL ret R QF cells slots n N M q ls (jF k :: st)) : gE X y cc mL ret R QF cells slots n N M pc ls st := by
  subst hq
  intro p l e s m args below meth c H locs lsA C hz hR hS hl
  exact lv_aload C.1 C.2.1 hdg (jlv_at hl hk) (kk p l e s m args below meth c H locs lsA C hz hR hS hl)
theorem e_istore_n (q : Nat) {f : Fin 4} {i : Nat} {z : Int} (hdg : decode cc pc = .ok (.istore_n f, 1)) (hi : (f : Nat) = i) (hn : i < mL) {lsn : List (Nat × jV)} (hls : jst1 ls i (jI z) = lsn) (hq : pc + 1 = q) (kk : gE X y cc mL ret R QF cells slots n N M q lsn st) : gE X y cc mL ret R QF cells slots n N M pc ls (jI z :: st) := by
  subst hq
  subst hls
  intro p l e s m args below meth c H locs lsA C hz hR hS hl
  exact lv_istore_n (lv' := jlv X (jst1 ls i (jI z))) C.1 C.2.1 hdg hi hl hn (jlv_st1 (X := X) (v := jI z)) (fun ls2 hl2 => kk p l e s m args below meth c H locs ls2 C hz hR hS hl2)
theorem e_istore (q : Nat) {i : Nat} {z : Int} (hdg : decode cc pc = .ok (.istore i, 2)) (hn : i < mL) {lsn : List (Nat × jV)} (hls : jst1 ls i (jI z) = lsn) (hq : pc + 2 = q) (kk : gE X y cc mL ret R QF cells slots n N M q lsn st) : gE X y cc mL ret R QF cells slots n N M pc ls (jI z :: st) := by
  subst hq
  subst hls
  intro p l e s m args below meth c H locs lsA C hz hR hS hl
  exact lv_istore (lv' := jlv X (jst1 ls i (jI z))) C.1 C.2.1 hdg hl hn (jlv_st1 (X := X) (v := jI z)) (fun ls2 hl2 => kk p l e s m args below meth c H locs ls2 C hz hR hS hl2)
theorem e_lstore_n (q : Nat) {f : Fin 4} {i : Nat} {z : Int} (hdg : decode cc pc = .ok (.lstore_n f, 1)) (hi : (f : Nat) = i) (hn : i + 1 < mL) {lsn : List (Nat × jV)} (hls : jst2 ls i (jL z) = lsn) (hq : pc + 1 = q) (kk : gE X y cc mL ret R QF cells slots n N M q lsn st) : gE X y cc mL ret R QF cells slots n N M pc ls (jL z :: st) := by
  subst hq
  subst hls
  intro p l e s m args below meth c H locs lsA C hz hR hS hl
  exact lv_lstore_n (lv' := jlv X (jst2 ls i (jL z))) C.1 C.2.1 hdg hi hl hn (jlv_st2 (X := X) (v := jL z)) (fun ls2 hl2 => kk p l e s m args below meth c H locs ls2 C hz hR hS hl2)
theorem e_lstore (q : Nat) {i : Nat} {z : Int} (hdg : decode cc pc = .ok (.lstore i, 2)) (hn : i + 1 < mL) {lsn : List (Nat × jV)} (hls : jst2 ls i (jL z) = lsn) (hq : pc + 2 = q) (kk : gE X y cc mL ret R QF cells slots n N M q lsn st) : gE X y cc mL ret R QF cells slots n N M pc ls (jL z :: st) := by
  subst hq
  subst hls
  intro p l e s m args below meth c H locs lsA C hz hR hS hl
  exact lv_lstore (lv' := jlv X (jst2 ls i (jL z))) C.1 C.2.1 hdg hl hn (jlv_st2 (X := X) (v := jL z)) (fun ls2 hl2 => kk p l e s m args below meth c H locs ls2 C hz hR hS hl2)
theorem e_astore_n (q : Nat) {f : Fin 4} {i : Nat} {k : Int} (hdg : decode cc pc = .ok (.astore_n f, 1)) (hi : (f : Nat) = i) (hn : i < mL) {lsn : List (Nat × jV)} (hls : jst1 ls i (jR k) = lsn) (hq : pc + 1 = q) (kk : gE X y cc mL ret R QF cells slots n N M q lsn st) : gE X y cc mL ret R QF cells slots n N M pc ls (jR k :: st) := by
  subst hq
  subst hls
  intro p l e s m args below meth c H locs lsA C hz hR hS hl
  exact lv_astore_n (lv' := jlv X (jst1 ls i (jR k))) C.1 C.2.1 hdg hi hl hn (jlv_st1 (X := X) (v := jR k)) (fun ls2 hl2 => kk p l e s m args below meth c H locs ls2 C hz hR hS hl2)
theorem e_astore (q : Nat) {i : Nat} {k : Int} (hdg : decode cc pc = .ok (.astore i, 2)) (hn : i < mL) {lsn : List (Nat × jV)} (hls : jst1 ls i (jR k) = lsn) (hq : pc + 2 = q) (kk : gE X y cc mL ret R QF cells slots n N M q lsn st) : gE X y cc mL ret R QF cells slots n N M pc ls (jR k :: st) := by
  subst hq
  subst hls
  intro p l e s m args below meth c H locs lsA C hz hR hS hl
  exact lv_astore (lv' := jlv X (jst1 ls i (jR k))) C.1 C.2.1 hdg hl hn (jlv_st1 (X := X) (v := jR k)) (fun ls2 hl2 => kk p l e s m args below meth c H locs ls2 C hz hR hS hl2)
theorem e_iinc (q : Nat) {i : Nat} {z d : Int} (hdg : decode cc pc = .ok (.iinc i d, 3)) (hk : jlk ls i = some (jI z)) (hn : i < mL) {lsn : List (Nat × jV)} (hls : jst1 ls i (jI (z + d)) = lsn) (hq : pc + 3 = q) (kk : gE X y cc mL ret R QF cells slots n N M q lsn st) : gE X y cc mL ret R QF cells slots n N M pc ls st := by
  subst hq
  subst hls
  intro p l e s m args below meth c H locs lsA C hz hR hS hl
  obtain ⟨k, hk2⟩ := List.getElem?_of_mem (List.mem_map.mpr ⟨(i, jI z), jlk_mem hk, rfl⟩ : (i, jv X (jI z)) ∈ jlv X ls)
  exact lv_iinc (lv' := jlv X (jst1 ls i (jI (z + d)))) C.1 C.2.1 hdg hl hk2 (of_add32 z d) hn (jlv_st1 (X := X) (v := jI (z + d))) (fun ls2 hl2 => kk p l e s m args below meth c H locs ls2 C hz hR hS hl2)
theorem e_iadd (q : Nat) {a b : Int} (hdg : decode cc pc = .ok (.iadd, 1)) (hq : pc + 1 = q) (kk : gE X y cc mL ret R QF cells slots n N M q ls (jI (a + b) :: st)) : gE X y cc mL ret R QF cells slots n N M pc ls (jI b :: jI a :: st) := by
  subst hq
  intro p l e s m args below meth c H locs lsA C hz hR hS hl
  refine lv_iadd C.1 C.2.1 hdg ?_
  rw [of_add32]
  exact kk p l e s m args below meth c H locs lsA C hz hR hS hl
theorem e_isub (q : Nat) {a b : Int} (hdg : decode cc pc = .ok (.isub, 1)) (hq : pc + 1 = q) (kk : gE X y cc mL ret R QF cells slots n N M q ls (jI (a - b) :: st)) : gE X y cc mL ret R QF cells slots n N M pc ls (jI b :: jI a :: st) := by
  subst hq
  intro p l e s m args below meth c H locs lsA C hz hR hS hl
  refine lv_isub C.1 C.2.1 hdg ?_
  rw [of_sub32]
  exact kk p l e s m args below meth c H locs lsA C hz hR hS hl
theorem e_imul (q : Nat) {a b : Int} (hdg : decode cc pc = .ok (.imul, 1)) (hq : pc + 1 = q) (kk : gE X y cc mL ret R QF cells slots n N M q ls (jI (a * b) :: st)) : gE X y cc mL ret R QF cells slots n N M pc ls (jI b :: jI a :: st) := by
  subst hq
  intro p l e s m args below meth c H locs lsA C hz hR hS hl
  refine lv_imul C.1 C.2.1 hdg ?_
  rw [of_mul32]
  exact kk p l e s m args below meth c H locs lsA C hz hR hS hl
theorem e_ladd (q : Nat) {a b : Int} (hdg : decode cc pc = .ok (.ladd, 1)) (hq : pc + 1 = q) (kk : gE X y cc mL ret R QF cells slots n N M q ls (jL (a + b) :: st)) : gE X y cc mL ret R QF cells slots n N M pc ls (jL b :: jL a :: st) := by
  subst hq
  intro p l e s m args below meth c H locs lsA C hz hR hS hl
  refine lv_ladd C.1 C.2.1 hdg ?_
  rw [of_add64]
  exact kk p l e s m args below meth c H locs lsA C hz hR hS hl
theorem e_lsub (q : Nat) {a b : Int} (hdg : decode cc pc = .ok (.lsub, 1)) (hq : pc + 1 = q) (kk : gE X y cc mL ret R QF cells slots n N M q ls (jL (a - b) :: st)) : gE X y cc mL ret R QF cells slots n N M pc ls (jL b :: jL a :: st) := by
  subst hq
  intro p l e s m args below meth c H locs lsA C hz hR hS hl
  refine lv_lsub C.1 C.2.1 hdg ?_
  rw [of_sub64]
  exact kk p l e s m args below meth c H locs lsA C hz hR hS hl
theorem e_lmul (q : Nat) {a b : Int} (hdg : decode cc pc = .ok (.lmul, 1)) (hq : pc + 1 = q) (kk : gE X y cc mL ret R QF cells slots n N M q ls (jL (a * b) :: st)) : gE X y cc mL ret R QF cells slots n N M pc ls (jL b :: jL a :: st) := by
  subst hq
  intro p l e s m args below meth c H locs lsA C hz hR hS hl
  refine lv_lmul C.1 C.2.1 hdg ?_
  rw [of_mul64]
  exact kk p l e s m args below meth c H locs lsA C hz hR hS hl
theorem e_ineg (q : Nat) {a : Int} (hdg : decode cc pc = .ok (.ineg, 1)) (hq : pc + 1 = q) (kk : gE X y cc mL ret R QF cells slots n N M q ls (jI (-a) :: st)) : gE X y cc mL ret R QF cells slots n N M pc ls (jI a :: st) := by
  subst hq
  intro p l e s m args below meth c H locs lsA C hz hR hS hl
  refine lv_ineg C.1 C.2.1 hdg ?_
  rw [of_neg32]
  exact kk p l e s m args below meth c H locs lsA C hz hR hS hl
theorem e_idiv (q : Nat) {a b : Int} (hdg : decode cc pc = .ok (.idiv, 1)) (ha : (-2147483648 ≤ a ∧ a ≤ 2147483647)) (hb : (-2147483648 ≤ b ∧ b ≤ 2147483647)) (h0 : b ≠ 0) (hq : pc + 1 = q) (kk : gE X y cc mL ret R QF cells slots n N M q ls (jI (a.tdiv b) :: st)) : gE X y cc mL ret R QF cells slots n N M pc ls (jI b :: jI a :: st) := by
  subst hq
  intro p l e s m args below meth c H locs lsA C hz hR hS hl
  refine lv_idiv C.1 C.2.1 hdg (fun h => h0 ?_) ?_
  · have h2 := congrArg Int32.toInt h
    rw [to_of32, w32_id hb] at h2
    exact h2
  · rw [of_div32 ha hb]
    exact kk p l e s m args below meth c H locs lsA C hz hR hS hl
theorem e_irem (q : Nat) {a b : Int} (hdg : decode cc pc = .ok (.irem, 1)) (ha : (-2147483648 ≤ a ∧ a ≤ 2147483647)) (hb : (-2147483648 ≤ b ∧ b ≤ 2147483647)) (h0 : b ≠ 0) (hq : pc + 1 = q) (kk : gE X y cc mL ret R QF cells slots n N M q ls (jI (a.tmod b) :: st)) : gE X y cc mL ret R QF cells slots n N M pc ls (jI b :: jI a :: st) := by
  subst hq
  intro p l e s m args below meth c H locs lsA C hz hR hS hl
  refine lv_irem C.1 C.2.1 hdg (fun h => h0 ?_) ?_
  · have h2 := congrArg Int32.toInt h
    rw [to_of32, w32_id hb] at h2
    exact h2
  · rw [of_div32 ha hb, of_mul32, of_sub32, show a - a.tdiv b * b = a.tmod b from by rw [Int.tmod_def, Int.mul_comm]]
    exact kk p l e s m args below meth c H locs lsA C hz hR hS hl
theorem e_ldiv (q : Nat) {a b : Int} (hdg : decode cc pc = .ok (.ldiv, 1)) (ha : (-9223372036854775808 ≤ a ∧ a ≤ 9223372036854775807)) (hb : (-9223372036854775808 ≤ b ∧ b ≤ 9223372036854775807)) (h0 : b ≠ 0) (hq : pc + 1 = q) (kk : gE X y cc mL ret R QF cells slots n N M q ls (jL (a.tdiv b) :: st)) : gE X y cc mL ret R QF cells slots n N M pc ls (jL b :: jL a :: st) := by
  subst hq
  intro p l e s m args below meth c H locs lsA C hz hR hS hl
  refine lv_ldiv C.1 C.2.1 hdg (fun h => h0 ?_) ?_
  · have h2 := congrArg Int64.toInt h
    rw [to_of64, w64_id hb] at h2
    exact h2
  · rw [of_div64 ha hb]
    exact kk p l e s m args below meth c H locs lsA C hz hR hS hl
theorem e_lrem (q : Nat) {a b : Int} (hdg : decode cc pc = .ok (.lrem, 1)) (ha : (-9223372036854775808 ≤ a ∧ a ≤ 9223372036854775807)) (hb : (-9223372036854775808 ≤ b ∧ b ≤ 9223372036854775807)) (h0 : b ≠ 0) (hq : pc + 1 = q) (kk : gE X y cc mL ret R QF cells slots n N M q ls (jL (a.tmod b) :: st)) : gE X y cc mL ret R QF cells slots n N M pc ls (jL b :: jL a :: st) := by
  subst hq
  intro p l e s m args below meth c H locs lsA C hz hR hS hl
  refine lv_lrem C.1 C.2.1 hdg (fun h => h0 ?_) ?_
  · have h2 := congrArg Int64.toInt h
    rw [to_of64, w64_id hb] at h2
    exact h2
  · rw [of_div64 ha hb, of_mul64, of_sub64, show a - a.tdiv b * b = a.tmod b from by rw [Int.tmod_def, Int.mul_comm]]
    exact kk p l e s m args below meth c H locs lsA C hz hR hS hl
theorem e_iand (q : Nat) {a b : Int} (hdg : decode cc pc = .ok (.iand, 1)) (hq : pc + 1 = q) (kk : gE X y cc mL ret R QF cells slots n N M q ls (jI (jand a b) :: st)) : gE X y cc mL ret R QF cells slots n N M pc ls (jI b :: jI a :: st) := by
  subst hq
  intro p l e s m args below meth c H locs lsA C hz hR hS hl
  refine lv_iand C.1 C.2.1 hdg ?_
  have h := kk p l e s m args below meth c H locs lsA C hz hR hS hl
  have e2 : jv X (jI (jand a b)) = .int _ := congrArg Value.int (of_to32 _)
  rw [List.map_cons, e2] at h
  exact h
theorem e_ior (q : Nat) {a b : Int} (hdg : decode cc pc = .ok (.ior, 1)) (hq : pc + 1 = q) (kk : gE X y cc mL ret R QF cells slots n N M q ls (jI (jor a b) :: st)) : gE X y cc mL ret R QF cells slots n N M pc ls (jI b :: jI a :: st) := by
  subst hq
  intro p l e s m args below meth c H locs lsA C hz hR hS hl
  refine lv_ior C.1 C.2.1 hdg ?_
  have h := kk p l e s m args below meth c H locs lsA C hz hR hS hl
  have e2 : jv X (jI (jor a b)) = .int _ := congrArg Value.int (of_to32 _)
  rw [List.map_cons, e2] at h
  exact h
theorem e_ixor (q : Nat) {a b : Int} (hdg : decode cc pc = .ok (.ixor, 1)) (hq : pc + 1 = q) (kk : gE X y cc mL ret R QF cells slots n N M q ls (jI (jxor a b) :: st)) : gE X y cc mL ret R QF cells slots n N M pc ls (jI b :: jI a :: st) := by
  subst hq
  intro p l e s m args below meth c H locs lsA C hz hR hS hl
  refine lv_ixor C.1 C.2.1 hdg ?_
  have h := kk p l e s m args below meth c H locs lsA C hz hR hS hl
  have e2 : jv X (jI (jxor a b)) = .int _ := congrArg Value.int (of_to32 _)
  rw [List.map_cons, e2] at h
  exact h
theorem e_ishl (q : Nat) {a b : Int} (hdg : decode cc pc = .ok (.ishl, 1)) (hq : pc + 1 = q) (kk : gE X y cc mL ret R QF cells slots n N M q ls (jI (jshl a b) :: st)) : gE X y cc mL ret R QF cells slots n N M pc ls (jI b :: jI a :: st) := by
  subst hq
  intro p l e s m args below meth c H locs lsA C hz hR hS hl
  refine lv_ishl C.1 C.2.1 hdg ?_
  have h := kk p l e s m args below meth c H locs lsA C hz hR hS hl
  have e2 : jv X (jI (jshl a b)) = .int _ := congrArg Value.int (of_to32 _)
  rw [List.map_cons, e2] at h
  exact h
theorem e_ishr (q : Nat) {a b : Int} (hdg : decode cc pc = .ok (.ishr, 1)) (hq : pc + 1 = q) (kk : gE X y cc mL ret R QF cells slots n N M q ls (jI (jshr a b) :: st)) : gE X y cc mL ret R QF cells slots n N M pc ls (jI b :: jI a :: st) := by
  subst hq
  intro p l e s m args below meth c H locs lsA C hz hR hS hl
  refine lv_ishr C.1 C.2.1 hdg ?_
  have h := kk p l e s m args below meth c H locs lsA C hz hR hS hl
  have e2 : jv X (jI (jshr a b)) = .int _ := congrArg Value.int (of_to32 _)
  rw [List.map_cons, e2] at h
  exact h
theorem e_iushr (q : Nat) {a b : Int} (hdg : decode cc pc = .ok (.iushr, 1)) (hq : pc + 1 = q) (kk : gE X y cc mL ret R QF cells slots n N M q ls (jI (jushr a b) :: st)) : gE X y cc mL ret R QF cells slots n N M pc ls (jI b :: jI a :: st) := by
  subst hq
  intro p l e s m args below meth c H locs lsA C hz hR hS hl
  exact lv_iushr C.1 C.2.1 hdg (of_to32 _).symm (kk p l e s m args below meth c H locs lsA C hz hR hS hl)
theorem e_land (q : Nat) {a b : Int} (hdg : decode cc pc = .ok (.land, 1)) (hq : pc + 1 = q) (kk : gE X y cc mL ret R QF cells slots n N M q ls (jL (jandL a b) :: st)) : gE X y cc mL ret R QF cells slots n N M pc ls (jL b :: jL a :: st) := by
  subst hq
  intro p l e s m args below meth c H locs lsA C hz hR hS hl
  refine lv_land C.1 C.2.1 hdg ?_
  have h := kk p l e s m args below meth c H locs lsA C hz hR hS hl
  have e2 : jv X (jL (jandL a b)) = .long _ := congrArg Value.long (of_to64 _)
  rw [List.map_cons, e2] at h
  exact h
theorem e_lor (q : Nat) {a b : Int} (hdg : decode cc pc = .ok (.lor, 1)) (hq : pc + 1 = q) (kk : gE X y cc mL ret R QF cells slots n N M q ls (jL (jorL a b) :: st)) : gE X y cc mL ret R QF cells slots n N M pc ls (jL b :: jL a :: st) := by
  subst hq
  intro p l e s m args below meth c H locs lsA C hz hR hS hl
  refine lv_lor C.1 C.2.1 hdg ?_
  have h := kk p l e s m args below meth c H locs lsA C hz hR hS hl
  have e2 : jv X (jL (jorL a b)) = .long _ := congrArg Value.long (of_to64 _)
  rw [List.map_cons, e2] at h
  exact h
theorem e_lxor (q : Nat) {a b : Int} (hdg : decode cc pc = .ok (.lxor, 1)) (hq : pc + 1 = q) (kk : gE X y cc mL ret R QF cells slots n N M q ls (jL (jxorL a b) :: st)) : gE X y cc mL ret R QF cells slots n N M pc ls (jL b :: jL a :: st) := by
  subst hq
  intro p l e s m args below meth c H locs lsA C hz hR hS hl
  refine lv_lxor C.1 C.2.1 hdg ?_
  have h := kk p l e s m args below meth c H locs lsA C hz hR hS hl
  have e2 : jv X (jL (jxorL a b)) = .long _ := congrArg Value.long (of_to64 _)
  rw [List.map_cons, e2] at h
  exact h
theorem e_lshl (q : Nat) {a b : Int} (hdg : decode cc pc = .ok (.lshl, 1)) (hq : pc + 1 = q) (kk : gE X y cc mL ret R QF cells slots n N M q ls (jL (jshlL a b) :: st)) : gE X y cc mL ret R QF cells slots n N M pc ls (jI b :: jL a :: st) := by
  subst hq
  intro p l e s m args below meth c H locs lsA C hz hR hS hl
  exact lv_lshl C.1 C.2.1 hdg (of_to64 _).symm (kk p l e s m args below meth c H locs lsA C hz hR hS hl)
theorem e_lshr (q : Nat) {a b : Int} (hdg : decode cc pc = .ok (.lshr, 1)) (hq : pc + 1 = q) (kk : gE X y cc mL ret R QF cells slots n N M q ls (jL (jshrL a b) :: st)) : gE X y cc mL ret R QF cells slots n N M pc ls (jI b :: jL a :: st) := by
  subst hq
  intro p l e s m args below meth c H locs lsA C hz hR hS hl
  exact lv_lshr C.1 C.2.1 hdg (of_to64 _).symm (kk p l e s m args below meth c H locs lsA C hz hR hS hl)
theorem e_i2l (q : Nat) {z : Int} (hdg : decode cc pc = .ok (.i2l, 1)) (hzz : (-2147483648 ≤ z ∧ z ≤ 2147483647)) (hq : pc + 1 = q) (kk : gE X y cc mL ret R QF cells slots n N M q ls (jL z :: st)) : gE X y cc mL ret R QF cells slots n N M pc ls (jI z :: st) := by
  subst hq
  intro p l e s m args below meth c H locs lsA C hz hR hS hl
  exact lv_i2l C.1 C.2.1 hdg (of_wide hzz) (kk p l e s m args below meth c H locs lsA C hz hR hS hl)
theorem e_l2i (q : Nat) {z : Int} (hdg : decode cc pc = .ok (.l2i, 1)) (hq : pc + 1 = q) (kk : gE X y cc mL ret R QF cells slots n N M q ls (jI z :: st)) : gE X y cc mL ret R QF cells slots n N M pc ls (jL z :: st) := by
  subst hq
  intro p l e s m args below meth c H locs lsA C hz hR hS hl
  exact lv_l2i C.1 C.2.1 hdg (of_narrow z) (kk p l e s m args below meth c H locs lsA C hz hR hS hl)
theorem e_i2b (q : Nat) {z : Int} (hdg : decode cc pc = .ok (.i2b, 1)) (hq : pc + 1 = q) (kk : gE X y cc mL ret R QF cells slots n N M q ls (jI (w8 z) :: st)) : gE X y cc mL ret R QF cells slots n N M pc ls (jI z :: st) := by
  subst hq
  intro p l e s m args below meth c H locs lsA C hz hR hS hl
  exact lv_i2b C.1 C.2.1 hdg (of_i2b z) (kk p l e s m args below meth c H locs lsA C hz hR hS hl)
theorem e_i2s (q : Nat) {z : Int} (hdg : decode cc pc = .ok (.i2s, 1)) (hq : pc + 1 = q) (kk : gE X y cc mL ret R QF cells slots n N M q ls (jI (w16 z) :: st)) : gE X y cc mL ret R QF cells slots n N M pc ls (jI z :: st) := by
  subst hq
  intro p l e s m args below meth c H locs lsA C hz hR hS hl
  exact lv_i2s C.1 C.2.1 hdg (of_i2s z) (kk p l e s m args below meth c H locs lsA C hz hR hS hl)
theorem e_dup (q : Nat) {v : jV} (hdg : decode cc pc = .ok (.dup, 1)) (hv : jcat v = 1) (hq : pc + 1 = q) (kk : gE X y cc mL ret R QF cells slots n N M q ls (v :: v :: st)) : gE X y cc mL ret R QF cells slots n N M pc ls (v :: st) := by
  subst hq
  intro p l e s m args below meth c H locs lsA C hz hR hS hl
  exact lv_dup C.1 C.2.1 hdg ((jcat_eq X v).trans hv) (kk p l e s m args below meth c H locs lsA C hz hR hS hl)
theorem e_dup2 (q : Nat) {v w : jV} (hdg : decode cc pc = .ok (.dup2, 1)) (hv : jcat v = 1) (hw : jcat w = 1) (hq : pc + 1 = q) (kk : gE X y cc mL ret R QF cells slots n N M q ls (v :: w :: v :: w :: st)) : gE X y cc mL ret R QF cells slots n N M pc ls (v :: w :: st) := by
  subst hq
  intro p l e s m args below meth c H locs lsA C hz hR hS hl
  exact lv_dup2_11 C.1 C.2.1 hdg ((jcat_eq X v).trans hv) ((jcat_eq X w).trans hw) (kk p l e s m args below meth c H locs lsA C hz hR hS hl)
theorem e_pop (q : Nat) {v : jV} (hdg : decode cc pc = .ok (.pop, 1)) (hv : jcat v = 1) (hq : pc + 1 = q) (kk : gE X y cc mL ret R QF cells slots n N M q ls st) : gE X y cc mL ret R QF cells slots n N M pc ls (v :: st) := by
  subst hq
  intro p l e s m args below meth c H locs lsA C hz hR hS hl
  exact lv_pop C.1 C.2.1 hdg ((jcat_eq X v).trans hv) (kk p l e s m args below meth c H locs lsA C hz hR hS hl)
theorem e_icmp_eq (q t : Nat) {a b off : Int} (hdg : decode cc pc = .ok (.if_icmp .eq off, 3)) (ha : (-2147483648 ≤ a ∧ a ≤ 2147483647)) (hb : (-2147483648 ≤ b ∧ b ≤ 2147483647)) (ht : (pc : Int) + off = (t : Int)) (hq : pc + 3 = q) (kt : a = b → gE X y cc mL ret R QF cells slots n N M t ls st) (kf : a ≠ b → gE X y cc mL ret R QF cells slots n N M q ls st) : gE X y cc mL ret R QF cells slots n N M pc ls (jI b :: jI a :: st) := by
  subst hq
  intro p l e s m args below meth c H locs lsA C hz hR hS hl
  exact lv_icmp_eq C.1 C.2.1 hdg ht (fun h => kt ((of_inj32 ha hb).mp h) p l e s m args below meth c H locs lsA C hz hR hS hl) (fun h => kf (fun e2 => h (by subst e2; rfl)) p l e s m args below meth c H locs lsA C hz hR hS hl)
theorem e_if_eq (q t : Nat) {a off : Int} (hdg : decode cc pc = .ok (.ifCond .eq off, 3)) (ha : (-2147483648 ≤ a ∧ a ≤ 2147483647)) (ht : (pc : Int) + off = (t : Int)) (hq : pc + 3 = q) (kt : a = 0 → gE X y cc mL ret R QF cells slots n N M t ls st) (kf : a ≠ 0 → gE X y cc mL ret R QF cells slots n N M q ls st) : gE X y cc mL ret R QF cells slots n N M pc ls (jI a :: st) := by
  subst hq
  intro p l e s m args below meth c H locs lsA C hz hR hS hl
  have hb : (-2147483648 ≤ (0 : Int) ∧ (0 : Int) ≤ 2147483647) := by decide
  exact lv_if_eq C.1 C.2.1 hdg ht (fun h => kt ((of_inj32 ha hb).mp h) p l e s m args below meth c H locs lsA C hz hR hS hl) (fun h => kf (fun e2 => h (by subst e2; rfl)) p l e s m args below meth c H locs lsA C hz hR hS hl)
theorem e_icmp_ne (q t : Nat) {a b off : Int} (hdg : decode cc pc = .ok (.if_icmp .ne off, 3)) (ha : (-2147483648 ≤ a ∧ a ≤ 2147483647)) (hb : (-2147483648 ≤ b ∧ b ≤ 2147483647)) (ht : (pc : Int) + off = (t : Int)) (hq : pc + 3 = q) (kt : a ≠ b → gE X y cc mL ret R QF cells slots n N M t ls st) (kf : a = b → gE X y cc mL ret R QF cells slots n N M q ls st) : gE X y cc mL ret R QF cells slots n N M pc ls (jI b :: jI a :: st) := by
  subst hq
  intro p l e s m args below meth c H locs lsA C hz hR hS hl
  exact lv_icmp_ne C.1 C.2.1 hdg ht (fun h => kt (fun e2 => h (by subst e2; rfl)) p l e s m args below meth c H locs lsA C hz hR hS hl) (fun h => kf ((of_inj32 ha hb).mp h) p l e s m args below meth c H locs lsA C hz hR hS hl)
theorem e_if_ne (q t : Nat) {a off : Int} (hdg : decode cc pc = .ok (.ifCond .ne off, 3)) (ha : (-2147483648 ≤ a ∧ a ≤ 2147483647)) (ht : (pc : Int) + off = (t : Int)) (hq : pc + 3 = q) (kt : a ≠ 0 → gE X y cc mL ret R QF cells slots n N M t ls st) (kf : a = 0 → gE X y cc mL ret R QF cells slots n N M q ls st) : gE X y cc mL ret R QF cells slots n N M pc ls (jI a :: st) := by
  subst hq
  intro p l e s m args below meth c H locs lsA C hz hR hS hl
  have hb : (-2147483648 ≤ (0 : Int) ∧ (0 : Int) ≤ 2147483647) := by decide
  exact lv_if_ne C.1 C.2.1 hdg ht (fun h => kt (fun e2 => h (by subst e2; rfl)) p l e s m args below meth c H locs lsA C hz hR hS hl) (fun h => kf ((of_inj32 ha hb).mp h) p l e s m args below meth c H locs lsA C hz hR hS hl)
theorem e_icmp_lt (q t : Nat) {a b off : Int} (hdg : decode cc pc = .ok (.if_icmp .lt off, 3)) (ha : (-2147483648 ≤ a ∧ a ≤ 2147483647)) (hb : (-2147483648 ≤ b ∧ b ≤ 2147483647)) (ht : (pc : Int) + off = (t : Int)) (hq : pc + 3 = q) (kt : a < b → gE X y cc mL ret R QF cells slots n N M t ls st) (kf : b ≤ a → gE X y cc mL ret R QF cells slots n N M q ls st) : gE X y cc mL ret R QF cells slots n N M pc ls (jI b :: jI a :: st) := by
  subst hq
  intro p l e s m args below meth c H locs lsA C hz hR hS hl
  exact lv_icmp_lt C.1 C.2.1 hdg ht (fun h => kt ((of_lt32 ha hb).mp h) p l e s m args below meth c H locs lsA C hz hR hS hl) (fun h => kf (Int.not_lt.mp fun e2 => h ((of_lt32 ha hb).mpr e2)) p l e s m args below meth c H locs lsA C hz hR hS hl)
theorem e_if_lt (q t : Nat) {a off : Int} (hdg : decode cc pc = .ok (.ifCond .lt off, 3)) (ha : (-2147483648 ≤ a ∧ a ≤ 2147483647)) (ht : (pc : Int) + off = (t : Int)) (hq : pc + 3 = q) (kt : a < 0 → gE X y cc mL ret R QF cells slots n N M t ls st) (kf : 0 ≤ a → gE X y cc mL ret R QF cells slots n N M q ls st) : gE X y cc mL ret R QF cells slots n N M pc ls (jI a :: st) := by
  subst hq
  intro p l e s m args below meth c H locs lsA C hz hR hS hl
  have hb : (-2147483648 ≤ (0 : Int) ∧ (0 : Int) ≤ 2147483647) := by decide
  exact lv_if_lt C.1 C.2.1 hdg ht (fun h => kt ((of_lt32 ha hb).mp h) p l e s m args below meth c H locs lsA C hz hR hS hl) (fun h => kf (Int.not_lt.mp fun e2 => h ((of_lt32 ha hb).mpr e2)) p l e s m args below meth c H locs lsA C hz hR hS hl)
theorem e_icmp_ge (q t : Nat) {a b off : Int} (hdg : decode cc pc = .ok (.if_icmp .ge off, 3)) (ha : (-2147483648 ≤ a ∧ a ≤ 2147483647)) (hb : (-2147483648 ≤ b ∧ b ≤ 2147483647)) (ht : (pc : Int) + off = (t : Int)) (hq : pc + 3 = q) (kt : b ≤ a → gE X y cc mL ret R QF cells slots n N M t ls st) (kf : a < b → gE X y cc mL ret R QF cells slots n N M q ls st) : gE X y cc mL ret R QF cells slots n N M pc ls (jI b :: jI a :: st) := by
  subst hq
  intro p l e s m args below meth c H locs lsA C hz hR hS hl
  exact lv_icmp_ge C.1 C.2.1 hdg ht (fun h => kt ((of_le32 hb ha).mp h) p l e s m args below meth c H locs lsA C hz hR hS hl) (fun h => kf (Int.not_le.mp fun e2 => h ((of_le32 hb ha).mpr e2)) p l e s m args below meth c H locs lsA C hz hR hS hl)
theorem e_if_ge (q t : Nat) {a off : Int} (hdg : decode cc pc = .ok (.ifCond .ge off, 3)) (ha : (-2147483648 ≤ a ∧ a ≤ 2147483647)) (ht : (pc : Int) + off = (t : Int)) (hq : pc + 3 = q) (kt : 0 ≤ a → gE X y cc mL ret R QF cells slots n N M t ls st) (kf : a < 0 → gE X y cc mL ret R QF cells slots n N M q ls st) : gE X y cc mL ret R QF cells slots n N M pc ls (jI a :: st) := by
  subst hq
  intro p l e s m args below meth c H locs lsA C hz hR hS hl
  have hb : (-2147483648 ≤ (0 : Int) ∧ (0 : Int) ≤ 2147483647) := by decide
  exact lv_if_ge C.1 C.2.1 hdg ht (fun h => kt ((of_le32 hb ha).mp h) p l e s m args below meth c H locs lsA C hz hR hS hl) (fun h => kf (Int.not_le.mp fun e2 => h ((of_le32 hb ha).mpr e2)) p l e s m args below meth c H locs lsA C hz hR hS hl)
theorem e_icmp_gt (q t : Nat) {a b off : Int} (hdg : decode cc pc = .ok (.if_icmp .gt off, 3)) (ha : (-2147483648 ≤ a ∧ a ≤ 2147483647)) (hb : (-2147483648 ≤ b ∧ b ≤ 2147483647)) (ht : (pc : Int) + off = (t : Int)) (hq : pc + 3 = q) (kt : b < a → gE X y cc mL ret R QF cells slots n N M t ls st) (kf : a ≤ b → gE X y cc mL ret R QF cells slots n N M q ls st) : gE X y cc mL ret R QF cells slots n N M pc ls (jI b :: jI a :: st) := by
  subst hq
  intro p l e s m args below meth c H locs lsA C hz hR hS hl
  exact lv_icmp_gt C.1 C.2.1 hdg ht (fun h => kt ((of_lt32 hb ha).mp h) p l e s m args below meth c H locs lsA C hz hR hS hl) (fun h => kf (Int.not_lt.mp fun e2 => h ((of_lt32 hb ha).mpr e2)) p l e s m args below meth c H locs lsA C hz hR hS hl)
theorem e_if_gt (q t : Nat) {a off : Int} (hdg : decode cc pc = .ok (.ifCond .gt off, 3)) (ha : (-2147483648 ≤ a ∧ a ≤ 2147483647)) (ht : (pc : Int) + off = (t : Int)) (hq : pc + 3 = q) (kt : 0 < a → gE X y cc mL ret R QF cells slots n N M t ls st) (kf : a ≤ 0 → gE X y cc mL ret R QF cells slots n N M q ls st) : gE X y cc mL ret R QF cells slots n N M pc ls (jI a :: st) := by
  subst hq
  intro p l e s m args below meth c H locs lsA C hz hR hS hl
  have hb : (-2147483648 ≤ (0 : Int) ∧ (0 : Int) ≤ 2147483647) := by decide
  exact lv_if_gt C.1 C.2.1 hdg ht (fun h => kt ((of_lt32 hb ha).mp h) p l e s m args below meth c H locs lsA C hz hR hS hl) (fun h => kf (Int.not_lt.mp fun e2 => h ((of_lt32 hb ha).mpr e2)) p l e s m args below meth c H locs lsA C hz hR hS hl)
theorem e_icmp_le (q t : Nat) {a b off : Int} (hdg : decode cc pc = .ok (.if_icmp .le off, 3)) (ha : (-2147483648 ≤ a ∧ a ≤ 2147483647)) (hb : (-2147483648 ≤ b ∧ b ≤ 2147483647)) (ht : (pc : Int) + off = (t : Int)) (hq : pc + 3 = q) (kt : a ≤ b → gE X y cc mL ret R QF cells slots n N M t ls st) (kf : b < a → gE X y cc mL ret R QF cells slots n N M q ls st) : gE X y cc mL ret R QF cells slots n N M pc ls (jI b :: jI a :: st) := by
  subst hq
  intro p l e s m args below meth c H locs lsA C hz hR hS hl
  exact lv_icmp_le C.1 C.2.1 hdg ht (fun h => kt ((of_le32 ha hb).mp h) p l e s m args below meth c H locs lsA C hz hR hS hl) (fun h => kf (Int.not_le.mp fun e2 => h ((of_le32 ha hb).mpr e2)) p l e s m args below meth c H locs lsA C hz hR hS hl)
theorem e_if_le (q t : Nat) {a off : Int} (hdg : decode cc pc = .ok (.ifCond .le off, 3)) (ha : (-2147483648 ≤ a ∧ a ≤ 2147483647)) (ht : (pc : Int) + off = (t : Int)) (hq : pc + 3 = q) (kt : a ≤ 0 → gE X y cc mL ret R QF cells slots n N M t ls st) (kf : 0 < a → gE X y cc mL ret R QF cells slots n N M q ls st) : gE X y cc mL ret R QF cells slots n N M pc ls (jI a :: st) := by
  subst hq
  intro p l e s m args below meth c H locs lsA C hz hR hS hl
  have hb : (-2147483648 ≤ (0 : Int) ∧ (0 : Int) ≤ 2147483647) := by decide
  exact lv_if_le C.1 C.2.1 hdg ht (fun h => kt ((of_le32 ha hb).mp h) p l e s m args below meth c H locs lsA C hz hR hS hl) (fun h => kf (Int.not_le.mp fun e2 => h ((of_le32 ha hb).mpr e2)) p l e s m args below meth c H locs lsA C hz hR hS hl)
theorem e_goto (t : Nat) {off : Int} (hdg : decode cc pc = .ok (.goto off, 3)) (ht : (pc : Int) + off = (t : Int)) (kk : gE X y cc mL ret R QF cells slots n N M t ls st) : gE X y cc mL ret R QF cells slots n N M pc ls st := by
  intro p l e s m args below meth c H locs lsA C hz hR hS hl
  exact lv_goto C.1 C.2.1 hdg ht (kk p l e s m args below meth c H locs lsA C hz hR hS hl)
theorem e_lcmp (q : Nat) {a b : Int} (hdg : decode cc pc = .ok (.lcmp, 1)) (ha : (-9223372036854775808 ≤ a ∧ a ≤ 9223372036854775807)) (hb : (-9223372036854775808 ≤ b ∧ b ≤ 9223372036854775807)) (hq : pc + 1 = q) (kl : a < b → gE X y cc mL ret R QF cells slots n N M q ls (jI (-1) :: st)) (ke : a = b → gE X y cc mL ret R QF cells slots n N M q ls (jI 0 :: st)) (kg : b < a → gE X y cc mL ret R QF cells slots n N M q ls (jI 1 :: st)) : gE X y cc mL ret R QF cells slots n N M pc ls (jL b :: jL a :: st) := by
  subst hq
  intro p l e s m args below meth c H locs lsA C hz hR hS hl
  refine W.lcmp C.1 C.2.1 hdg ?_
  rcases Int.lt_trichotomy a b with h | h | h
  · have e1 : lg_cmp (Int64.ofInt a) (Int64.ofInt b) = Int32.ofInt (-1) := by
      unfold lg_cmp
      rw [if_neg (fun q => by have := (of_lt64 hb ha).mp q; omega), if_neg (fun q => by have := (of_inj64 ha hb).mp q; omega)]
      rfl
    rw [e1]
    exact kl h p l e s m args below meth c H locs lsA C hz hR hS hl
  · have e1 : lg_cmp (Int64.ofInt a) (Int64.ofInt b) = Int32.ofInt 0 := by
      unfold lg_cmp
      rw [if_neg (fun q => by have := (of_lt64 hb ha).mp q; omega), if_pos (by rw [h])]
      rfl
    rw [e1]
    exact ke h p l e s m args below meth c H locs lsA C hz hR hS hl
  · have e1 : lg_cmp (Int64.ofInt a) (Int64.ofInt b) = Int32.ofInt 1 := by
      unfold lg_cmp
      rw [if_pos ((of_lt64 hb ha).mpr h)]
      rfl
    rw [e1]
    exact kg h p l e s m args below meth c H locs lsA C hz hR hS hl
theorem e_tswIn (t : Nat) {z c0 dflt lo hi off : Int} {offs : Array Int} {len : Nat} (hdg : decode cc pc = .ok (.tableswitch dflt lo hi offs, len)) (hz0 : z = c0) (hc : (-2147483648 ≤ c0 ∧ c0 ≤ 2147483647)) (h1 : lo ≤ c0) (h2 : c0 ≤ hi) (ho : offs[(c0 - lo).toNat]? = some off) (ht : (pc : Int) + off = (t : Int)) (kk : gE X y cc mL ret R QF cells slots n N M t ls st) : gE X y cc mL ret R QF cells slots n N M pc ls (jI z :: st) := by
  subst hz0
  intro p l e s m args below meth c H locs lsA C hz hR hS hl
  have e1 : (Int32.ofInt z).toInt = z := by rw [to_of32, w32_id hc]
  exact lv_tableIn C.1 C.2.1 hdg (by rw [e1]; omega) (by rw [e1]; omega) (by rw [e1]; exact ho) ht (kk p l e s m args below meth c H locs lsA C hz hR hS hl)
theorem e_tswOut (t : Nat) {z dflt lo hi : Int} {offs : Array Int} {len : Nat} (hdg : decode cc pc = .ok (.tableswitch dflt lo hi offs, len)) (hc : (-2147483648 ≤ z ∧ z ≤ 2147483647)) (h : z < lo ∨ hi < z) (ht : (pc : Int) + dflt = (t : Int)) (kk : gE X y cc mL ret R QF cells slots n N M t ls st) : gE X y cc mL ret R QF cells slots n N M pc ls (jI z :: st) := by
  intro p l e s m args below meth c H locs lsA C hz hR hS hl
  have e1 : (Int32.ofInt z).toInt = z := by rw [to_of32, w32_id hc]
  exact lv_tableOut C.1 C.2.1 hdg (by rw [e1]; exact h) ht (kk p l e s m args below meth c H locs lsA C hz hR hS hl)
theorem e_tsw (t0 : Nat) {z dflt lo hi : Int} {offs : Array Int} {len : Nat} (hdg : decode cc pc = .ok (.tableswitch dflt lo hi offs, len)) (hc : (-2147483648 ≤ z ∧ z ≤ 2147483647)) (ht : (pc : Int) + dflt = (t0 : Int)) (kin : ∀ c0 : Int, lo ≤ c0 ∧ c0 ≤ hi → z = c0 → ∃ (off : Int) (t : Nat), offs[(c0 - lo).toNat]? = some off ∧ (pc : Int) + off = (t : Int) ∧ gE X y cc mL ret R QF cells slots n N M t ls st) (kout : z < lo ∨ hi < z → gE X y cc mL ret R QF cells slots n N M t0 ls st) : gE X y cc mL ret R QF cells slots n N M pc ls (jI z :: st) := by
  by_cases h : z < lo ∨ hi < z
  · exact e_tswOut t0 hdg hc h ht (kout h)
  · obtain ⟨off, t, h1, h2, h3⟩ := kin z (by omega) rfl
    exact e_tswIn t hdg rfl hc (by omega) (by omega) h1 h2 h3
end RU
