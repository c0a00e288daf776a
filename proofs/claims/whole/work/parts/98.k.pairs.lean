/-! STRINGS: the literals, their lengths and chars -/
section RS
variable {X : jX} {y : MethodName} {cc : ByteArray} {mL : Nat} {ret : Option FieldType} {R : Room} {QF : jQF} {cells slots n : Nat} {N : jN} {M : jM} {pc : Nat} {ls : List (Nat × jV)} {st : List jV}
variable {ix i : Nat}
def jch (i k : Nat) : Int := ((jbyt.getD i []).getD k 0).toInt
theorem jch_rng : ∀ i : Nat, i < 21 → ∀ k : Nat, k < jlen.getD i 0 → 0 ≤ jch i k ∧ jch i k ≤ 127 := by decide +kernel
theorem jlen_rng : ∀ i : Nat, i < 21 → jlen.getD i 0 < 100 := by decide +kernel
theorem jshr_len : ∀ i : Nat, i < 21 → jshr (jlen.getD i 0 : Nat) 0 = (jlen.getD i 0 : Nat) := by decide +kernel
theorem jand_255 : ∀ n : Nat, n < 128 → jand (n : Int) 255 = n := by decide +kernel
theorem of_i2cN : ∀ n : Nat, n < 128 → ((Int32.ofInt (n : Int)).toUInt32 % 65536).toInt32 = Int32.ofInt n := by decide +kernel
theorem of_i2c {z : Int} (h : 0 ≤ z ∧ z ≤ 127) : ((Int32.ofInt z).toUInt32 % 65536).toInt32 = Int32.ofInt z := by
  obtain ⟨n, rfl⟩ : ∃ n : Nat, z = n := ⟨z.toNat, by omega⟩
  exact of_i2cN n (by omega)
theorem e_i2c (q : Nat) {z : Int} (hz0 : 0 ≤ z ∧ z ≤ 127) (hdg : decode cc pc = .ok (.i2c, 1)) (hq : pc + 1 = q) (kk : gE X y cc mL ret R QF cells slots n N M q ls (jI z :: st)) : gE X y cc mL ret R QF cells slots n N M pc ls (jI z :: st) := by
  subst hq
  intro p l e s m args below meth c H locs lsA C hz hR hS hl
  exact lv_i2c C.1 C.2.1 hdg (of_i2c hz0) (kk p l e s m args below meth c H locs lsA C hz hR hS hl)
theorem e_getsC (q : Nat) (hw : Cond.fieldLink y.cls ix "java/lang/String" "COMPACT_STRINGS" "Z" ∈ lw_g) (hdg : decode cc pc = .ok (.getstatic ix, 3)) (hq : pc + 3 = q) (kk : gE X y cc mL ret R QF cells slots n N M q ls (jI 1 :: st)) : gE X y cc mL ret R QF cells slots n N M pc ls st := by
  subst hq
  intro p l e s m args below meth c H locs lsA C hz hR hS hl
  have hF := C.2.2.2.2.2.2.2.2.2.2
  exact va_gets C.1 C.2.1 hF.2.2.2.1 hS C.2.2.2.2.2.2.1 (C.2.2.2.2.2.2.2.1 _ hw) (fun _ h => h) hdg (kk p l e s m args below meth c H locs lsA C hz hR hS hl)
theorem e_getsQ (q : Nat) (hw : Cond.fieldLink y.cls ix "jdk/internal/util/Preconditions" "SIOOBE_FORMATTER" "Ljava/util/function/BiFunction;" ∈ lw_g) (hdg : decode cc pc = .ok (.getstatic ix, 3)) (hq : pc + 3 = q) (kk : ∀ v : Value, v.category = 1 → gE X y cc mL ret R QF cells slots n N M q ls (jW v :: st)) : gE X y cc mL ret R QF cells slots n N M pc ls st := by
  subst hq
  intro p l e s m args below meth c H locs lsA C hz hR hS hl
  have hF := C.2.2.2.2.2.2.2.2.2.2
  rcases hF.2.2.2.2.1 with h | ⟨t, h⟩
  · exact va_gets C.1 C.2.1 h hS C.2.2.2.2.2.2.1 (C.2.2.2.2.2.2.2.1 _ hw) (fun _ h => h) hdg (kk .null rfl p l e s m args below meth c H locs lsA C hz hR hS hl)
  · exact va_gets C.1 C.2.1 h hS C.2.2.2.2.2.2.1 (C.2.2.2.2.2.2.2.1 _ hw) (fun _ h => h) hdg (kk (.ref t) rfl p l e s m args below meth c H locs lsA C hz hR hS hl)
theorem e_getfV (q : Nat) (hi : i < 21) (hw : Cond.fieldLink y.cls ix "java/lang/String" "value" "[B" ∈ lw_g) (hdg : decode cc pc = .ok (.getfield ix, 3)) (hq : pc + 3 = q) (kk : gE X y cc mL ret R QF cells slots n N M q ls (jF (27 + i) :: st)) : gE X y cc mL ret R QF cells slots n N M pc ls (jF (6 + i) :: st) := by
  subst hq
  intro p l e s m args below meth c H locs lsA C hz hR hS hl
  have hF := C.2.2.2.2.2.2.2.2.2.2
  exact vk_getf C.1 C.2.1 (hF.2.1.1 i hi).2.2.1 hS C.2.2.2.2.2.2.1 (C.2.2.2.2.2.2.2.1 _ hw) (fun _ h => h) hdg (kk p l e s m args below meth c H locs lsA C hz hR hS hl)
theorem e_getfD (q : Nat) (hi : i < 21) (hw : Cond.fieldLink y.cls ix "java/lang/String" "coder" "B" ∈ lw_g) (hdg : decode cc pc = .ok (.getfield ix, 3)) (hq : pc + 3 = q) (kk : gE X y cc mL ret R QF cells slots n N M q ls (jI 0 :: st)) : gE X y cc mL ret R QF cells slots n N M pc ls (jF (6 + i) :: st) := by
  subst hq
  intro p l e s m args below meth c H locs lsA C hz hR hS hl
  have hF := C.2.2.2.2.2.2.2.2.2.2
  exact vk_getf C.1 C.2.1 (hF.2.1.1 i hi).2.1 hS C.2.2.2.2.2.2.1 (C.2.2.2.2.2.2.2.1 _ hw) (fun _ h => h) hdg (kk p l e s m args below meth c H locs lsA C hz hR hS hl)
theorem e_blen (q : Nat) (hi : i < 21) (hdg : decode cc pc = .ok (.arraylength, 1)) (hq : pc + 1 = q) (kk : gE X y cc mL ret R QF cells slots n N M q ls (jI ((jlen.getD i 0 : Nat) : Int) :: st)) : gE X y cc mL ret R QF cells slots n N M pc ls (jF (27 + i) :: st) := by
  subst hq
  intro p l e s m args below meth c H locs lsA C hz hR hS hl
  have hF := C.2.2.2.2.2.2.2.2.2.2
  obtain ⟨cell, f1, f2, f3, f4, f5, f6, f7⟩ := (hF.2.1.1 i hi).2.2.2.kept (H1 := H) (fun a h1 h2 => hS.2.1 a h1 h2)
  refine W.alen C.1 C.2.1 f1 f2 (n := Int32.ofInt ((jlen.getD i 0 : Nat) : Int)) ?_ rfl rfl hdg (kk p l e s m args below meth c H locs lsA C hz hR hS hl)
  rw [f5]
  rfl
theorem e_bbald (q : Nat) {k : Int} (hi : i < 21) (h0 : 0 ≤ k) (h1 : k < (jlen.getD i 0 : Nat)) (hdg : decode cc pc = .ok (.baload, 1)) (hq : pc + 1 = q) (kk : gE X y cc mL ret R QF cells slots n N M q ls (jI (jch i k.toNat) :: st)) : gE X y cc mL ret R QF cells slots n N M pc ls (jI k :: jF (27 + i) :: st) := by
  subst hq
  intro p l e s m args below meth c H locs lsA C hz hR hS hl
  have hF := C.2.2.2.2.2.2.2.2.2.2
  obtain ⟨cell, f1, f2, f3, f4, f5, f6, f7⟩ := (hF.2.1.1 i hi).2.2.2.kept (H1 := H) (fun a h1 h2 => hS.2.1 a h1 h2)
  have hb := jlen_rng i hi
  have e4 : (Int32.ofInt k).toNatClampNeg = k.toNat := of_clamp h0 (by omega)
  have hv : jv X (jI (jch i k.toNat)) = .int ((jbyt.getD i []).getD k.toNat 0) := congrArg Value.int (of_to32 _)
  have h := kk p l e s m args below meth c H locs lsA C hz hR hS hl
  rw [List.map_cons, hv] at h
  refine W.bald C.1 C.2.1 f1 f2 f3 ?_ ?_ rfl rfl hdg h
  · rw [e4]
    intro q
    rcases q with q | q
    · rw [of_zero32, of_lt32 (by omega) (by decide)] at q
      omega
    · omega
  · rw [e4, f6 _ (by omega)]
theorem jrecvF {p : Program} {s : State} {m : MethodId} {args : Array Value} {meth : Method} {c : Code} {H : Heap} {locs : List Loc} (C : jCtx X y cc mL ret p s m args meth c) (hS : va_S (jA X) s.heap H locs) (hi : i < 21) : ∃ cellB : Cell, H[X.2.2.2.1 (6 + i)]? = some cellB ∧ cellB.vm.isStatics = false ∧ s.vm.findClass "java/lang/String" = some cellB.cls :=
  vk_recv (adK := fun i => X.2.2.2.1 (6 + i)) (i := i) (C.2.2.2.2.2.2.2.2.2.2 : jFz X s s.heap).2.1 hi hS
variable {y1 : MethodName} {cc1 : ByteArray} {mL1 : Nat} {ret1 : Option FieldType} {np d1 : Nat} {av rest : List jV}
theorem e_callF (q : Nat) (hi : i < 21) (hm : jMth y1 cc1 mL1 ret1 np) (hv : Cond.instanceMethod y1 ∈ lw_g ∧ Cond.selects y1.cls y1 y1 ∈ lw_g) (hl : Cond.methodLink y.cls ix y1 ∈ lw_g) (h80 : mL1 ≤ 80) (hdg : decode cc pc = .ok (.invokevirtual ix, 3)) (hcn : "java/lang/String" = y1.cls) (hs : st = av.reverse ++ jF (6 + i) :: rest) (hn : av.length = np) (hrest : (rest.map jcat).sum ≤ 8) (hr : jRoom R d1 0 0 cells slots) (hq : pc + 3 = q) (hM : jCt y1 cc1 mL1 ret1 d1 (jF (6 + i) :: av) M (fun z M2 => gE X y cc mL ret R QF cells slots 949 topo M2 q ls (jpush ret1 z rest))) : gE X y cc mL ret R QF cells slots 949 topo M pc ls st := by
  subst hq
  subst hs
  intro p l e s m args below meth c H locs lsA C hz hR hS hll
  have hcs : (rest.map jcat).sum ≤ 8 := hrest
  intro T hT Xs
  have hsz : H.size = X.2.2.1 + 949 := by subst hT; exact jSize C.2.2.2.2.2.2.2.2.1 hz hR hS Xs
  refine jRun (ret1 := ret1) (rest := rest.map (jv X)) (va_runV (b := X.2.2.2.1 (6 + i)) (As := av.map (jv X)) (rest := rest.map (jv X)) (C := y1.cls) ⟨C.1, C.2.1, C.2.2.1, C.2.2.2.2.2.2.1, C.2.2.2.2.2.2.2.1⟩ (hM X l) ⟨jcb C hm hl h80 ⟨hr.1, hr.2.1⟩, C.2.2.2.2.2.2.2.1 _ hv.1, C.2.2.2.2.2.2.2.1 _ hv.2⟩ ⟨jP_blind, by rw [← hcn]; exact jrecvF C hS hi, jPre C hR hS hsz⟩ rfl (by rw [List.length_map]; exact hn) hll.1 (by show (av.reverse ++ jF (6 + i) :: rest).map (jv X) = _; rw [jrevmap]; rfl) (by
    have e : ((rest.map (jv X)).map fun v => v.category) = rest.map jcat := by
      rw [List.map_map]
      apply List.map_congr_left
      intro v _
      exact jcat_eq X v
    rw [e]
    show 2 * 0 + _ ≤ 8
    omega) hdg ⟨hr.2.2.1, hr.2.2.2⟩) hS (fun z n2 N2 M2 H1 locs1 hK hR1 hS1 => ?_) T hT Xs
  obtain ⟨e1, e2, h1⟩ := hK
  subst e1
  subst e2
  rw [← jpush_eq]
  exact h1 p l e s m args below meth c H1 locs1 lsA C (by omega) hR1 hS1 hll
theorem e_cret {z : Int} {d : Nat} {Q : Int → jM → Prop} (hdg : decode cc pc = .ok (.ireturn, 1)) (hz01 : 0 ≤ z ∧ z ≤ 127) (hQ : Q z M) : jE X y cc mL (some .char) d Q M pc ls [jI z] := by
  intro p l e s m args below meth c H locs lsA C hz hR hS hl
  exact W.zret C.1 C.2.1 C.2.2.2.1 (congrArg Value.int (of_i2c hz01)) (fun t ht _ => ⟨⟨z, 949, topo, M, rfl, ⟨rfl, rfl, hQ⟩, by rw [ht]; exact hR⟩, hS.F ht⟩) hS.2.2 hdg C.2.2.2.2.1
theorem e_bret {d : Nat} {Q : Int → jM → Prop} (hdg : decode cc pc = .ok (.ireturn, 1)) (hQ : Q 0 M) : jE X y cc mL (some .byte) d Q M pc ls [jI 0] := by
  intro p l e s m args below meth c H locs lsA C hz hR hS hl
  exact W.zret C.1 C.2.1 C.2.2.2.1 (by rfl) (fun t ht _ => ⟨⟨0, 949, topo, M, rfl, ⟨rfl, rfl, hQ⟩, by rw [ht]; exact hR⟩, hS.F ht⟩) hS.2.2 hdg C.2.2.2.2.1
end RS
theorem c_coder {M : jM} {Q : Int → jM → Prop} {i : Nat} (hi : i < 21) (h : Q 0 M) : jCt yJ_coder cJ_coder 1 (some .byte) 1 [jF (6 + i)] M Q := by
  refine jCt_of mt_yJ_coder (Nat.le_of_ble_eq_true rfl) (fun X => ?_)
  refine e_getsC 3 wd_567 dJ_coder_0 rfl ?_
  refine e_if_eq 6 13 dJ_coder_3 (by decide) (by decide) rfl (fun h => absurd h (by decide)) (fun _ => ?_)
  refine e_aloadF_n (i := 0) 7 dJ_coder_6 rfl rfl rfl ?_
  refine e_getfD 10 hi wd_1840 dJ_coder_7 rfl ?_
  refine e_goto 14 dJ_coder_10 (by decide) ?_
  exact e_bret dJ_coder_14 h
theorem c_strlen {M : jM} {Q : Int → jM → Prop} {i : Nat} (hi : i < 21) {z : Int} (hz : ((jlen.getD i 0 : Nat) : Int) = z) (h : Q z M) : jCt yJ_len cJ_len 1 (some .int) 2 [jF (6 + i)] M Q := by
  refine jCt_of mt_yJ_len (Nat.le_of_ble_eq_true rfl) (fun X => ?_)
  refine e_aloadF_n (i := 0) 1 dJ_len_0 rfl rfl rfl ?_
  refine e_getfV 4 hi wd_1839 dJ_len_1 rfl ?_
  refine e_blen 5 hi dJ_len_4 rfl ?_
  refine e_aloadF_n (i := 0) 6 dJ_len_5 rfl rfl rfl ?_
  refine e_callF (av := []) 9 hi mt_yJ_coder mv_yJ_coder wd_563 (by decide) dJ_len_6 rfl rfl rfl (Nat.le_of_ble_eq_true rfl) (jroom (by decide)) rfl (c_coder hi ?_)
  dsimp only [jpush]
  refine e_ishr 10 dJ_len_9 rfl ?_
  rw [jshr_len i hi, hz]
  exact e_iret dJ_len_10 h
theorem c_isLat {M : jM} {Q : Int → jM → Prop} {i : Nat} (hi : i < 21) (h : Q 1 M) : jCt yJ_isLat cJ_isLat 1 (some .boolean) 1 [jF (6 + i)] M Q := by
  refine jCt_of mt_yJ_isLat (Nat.le_of_ble_eq_true rfl) (fun X => ?_)
  refine e_getsC 3 wd_567 dJ_isLat_0 rfl ?_
  refine e_if_eq 6 17 dJ_isLat_3 (by decide) (by decide) rfl (fun h => absurd h (by decide)) (fun _ => ?_)
  refine e_aloadF_n (i := 0) 7 dJ_isLat_6 rfl rfl rfl ?_
  refine e_getfD 10 hi wd_1840 dJ_isLat_7 rfl ?_
  refine e_if_ne 13 17 dJ_isLat_10 (by decide) (by decide) rfl (fun h => absurd h (by decide)) (fun _ => ?_)
  refine e_iconst 14 dJ_isLat_13 rfl ?_
  refine e_goto 18 dJ_isLat_14 (by decide) ?_
  exact e_zret dJ_isLat_18 (by decide) h
theorem c_ckP {M : jM} {Q : Int → jM → Prop} {k z : Int} {v : Value} (hv : v.category = 1) (hk : 0 ≤ k ∧ k < z) (hz : z < 100) (h : Q k M) : jCt yJ_ckP cJ_ckP 3 (some .int) 1 [jI k, jI z, jW v] M Q := by
  refine jCt_of mt_yJ_ckP (by simp [jsl, jcat, hv]) (fun X => ?_)
  rw [show jav 0 [jI k, jI z, jW v] = [(0, jI k), (1, jI z), (2, jW v)] from rfl]
  refine e_iload_n (i := 0) 1 dJ_ckP_0 rfl rfl rfl ?_
  refine e_if_lt 4 9 dJ_ckP_1 (by omega) (by decide) rfl (fun h => by omega) (fun _ => ?_)
  refine e_iload_n (i := 0) 5 dJ_ckP_4 rfl rfl rfl ?_
  refine e_iload_n (i := 1) 6 dJ_ckP_5 rfl rfl rfl ?_
  refine e_icmp_lt 9 16 dJ_ckP_6 (by omega) (by omega) (by decide) rfl (fun _ => ?_) (fun h => by omega)
  refine e_iload_n (i := 0) 17 dJ_ckP_16 rfl rfl rfl ?_
  exact e_iret dJ_ckP_17 h
theorem c_ckS {M : jM} {Q : Int → jM → Prop} {k z : Int} (hk : 0 ≤ k ∧ k < z) (hz : z < 100) (h : Q 0 M) : jCt yJ_ckS cJ_ckS 2 none 2 [jI k, jI z] M Q := by
  refine jCt_of mt_yJ_ckS (Nat.le_of_ble_eq_true rfl) (fun X => ?_)
  refine e_iload_n (i := 0) 1 dJ_ckS_0 rfl rfl rfl ?_
  refine e_iload_n (i := 1) 2 dJ_ckS_1 rfl rfl rfl ?_
  refine e_getsQ 5 wd_583 dJ_ckS_2 rfl (fun v hv => ?_)
  refine e_callS (av := [jI k, jI z, jW v]) 8 mt_yJ_ckP ms_yJ_ckP wd_585 (by decide) dJ_ckS_5 rfl rfl (Nat.le_of_ble_eq_true rfl) (jroom (by decide)) rfl (c_ckP hv hk hz ?_)
  dsimp only [jpush]
  refine e_pop 9 dJ_ckS_8 rfl rfl ?_
  exact e_vret dJ_ckS_9 h
theorem c_latAt {M : jM} {Q : Int → jM → Prop} {i : Nat} (hi : i < 21) {k : Int} (hk : 0 ≤ k ∧ k < (jlen.getD i 0 : Nat)) (h : Q (jch i k.toNat) M) : jCt yJ_latAt cJ_latAt 2 (some .char) 3 [jF (27 + i), jI k] M Q := by
  refine jCt_of mt_yJ_latAt (Nat.le_of_ble_eq_true rfl) (fun X => ?_)
  have hz := jlen_rng i hi
  have hc := jch_rng i hi k.toNat (by omega)
  refine e_iload_n (i := 1) 1 dJ_latAt_0 rfl rfl rfl ?_
  refine e_aloadF_n (i := 0) 2 dJ_latAt_1 rfl rfl rfl ?_
  refine e_blen 3 hi dJ_latAt_2 rfl ?_
  refine e_callS 6 mt_yJ_ckS ms_yJ_ckS wd_580 (by decide) dJ_latAt_3 rfl rfl (Nat.le_of_ble_eq_true rfl) (jroom (by decide)) rfl (c_ckS hk (by omega) ?_)
  dsimp only [jpush]
  refine e_aloadF_n (i := 0) 7 dJ_latAt_6 rfl rfl rfl ?_
  refine e_iload_n (i := 1) 8 dJ_latAt_7 rfl rfl rfl ?_
  refine e_bbald 9 hi hk.1 hk.2 dJ_latAt_8 rfl ?_
  refine e_sipush 12 dJ_latAt_9 (by decide) rfl ?_
  refine e_iand 13 dJ_latAt_12 rfl ?_
  have e := jand_255 (jch i k.toNat).toNat (by omega)
  rw [show (((jch i k.toNat).toNat : Nat) : Int) = jch i k.toNat by omega] at e
  rw [e]
  refine e_i2c 14 hc dJ_latAt_13 rfl ?_
  exact e_cret dJ_latAt_14 hc h
theorem c_charAt {M : jM} {Q : Int → jM → Prop} {i : Nat} (hi : i < 21) {k z : Int} (hk : 0 ≤ k ∧ k < (jlen.getD i 0 : Nat)) (hz : jch i k.toNat = z) (h : Q z M) : jCt yJ_charAt cJ_charAt 2 (some .char) 4 [jF (6 + i), jI k] M Q := by
  refine jCt_of mt_yJ_charAt (Nat.le_of_ble_eq_true rfl) (fun X => ?_)
  have hl := jlen_rng i hi
  have hc := jch_rng i hi k.toNat (by omega)
  refine e_aloadF_n (i := 0) 1 dJ_charAt_0 rfl rfl rfl ?_
  refine e_callF (av := []) 4 hi mt_yJ_isLat mv_yJ_isLat wd_573 (by decide) dJ_charAt_1 rfl rfl rfl (Nat.le_of_ble_eq_true rfl) (jroom (by decide)) rfl (c_isLat hi ?_)
  dsimp only [jpush]
  refine e_if_eq 7 16 dJ_charAt_4 (by decide) (by decide) rfl (fun h => absurd h (by decide)) (fun _ => ?_)
  refine e_aloadF_n (i := 0) 8 dJ_charAt_7 rfl rfl rfl ?_
  refine e_getfV 11 hi wd_1839 dJ_charAt_8 rfl ?_
  refine e_iload_n (i := 1) 12 dJ_charAt_11 rfl rfl rfl ?_
  refine e_callS (av := [jF (27 + i), jI k]) 15 mt_yJ_latAt ms_yJ_latAt wd_577 (by decide) dJ_charAt_12 rfl rfl (Nat.le_of_ble_eq_true rfl) (jroom (by decide)) rfl (c_latAt hi hk ?_)
  dsimp only [jpush]
  rw [hz] at hc ⊢
  exact e_cret dJ_charAt_15 hc h
