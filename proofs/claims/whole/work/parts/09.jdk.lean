def yJ_maxI : MethodName := ⟨"java/lang/Math", "max", "(II)I"⟩
abbrev cJ_maxI : ByteArray := prog_15_method_65_code
theorem dJ_maxI_0 : decode cJ_maxI 0 = .ok (.iload_n 0, 1) := by decide +kernel
theorem dJ_maxI_1 : decode cJ_maxI 1 = .ok (.iload_n 1, 1) := by decide +kernel
theorem dJ_maxI_2 : decode cJ_maxI 2 = .ok (.if_icmp .lt 7, 3) := by decide +kernel
theorem dJ_maxI_5 : decode cJ_maxI 5 = .ok (.iload_n 0, 1) := by decide +kernel
theorem dJ_maxI_6 : decode cJ_maxI 6 = .ok (.goto 4, 3) := by decide +kernel
theorem dJ_maxI_9 : decode cJ_maxI 9 = .ok (.iload_n 1, 1) := by decide +kernel
theorem dJ_maxI_10 : decode cJ_maxI 10 = .ok (.ireturn, 1) := by decide +kernel
theorem mc_yJ_maxI : Cond.code yJ_maxI cJ_maxI 2 (some .int) ∈ lw_g := wd_748
theorem ms_yJ_maxI : Cond.static yJ_maxI ∈ lw_g := wd_747
def yJ_minI : MethodName := ⟨"java/lang/Math", "min", "(II)I"⟩
abbrev cJ_minI : ByteArray := prog_15_method_69_code
theorem dJ_minI_0 : decode cJ_minI 0 = .ok (.iload_n 0, 1) := by decide +kernel
theorem dJ_minI_1 : decode cJ_minI 1 = .ok (.iload_n 1, 1) := by decide +kernel
theorem dJ_minI_2 : decode cJ_minI 2 = .ok (.if_icmp .gt 7, 3) := by decide +kernel
theorem dJ_minI_5 : decode cJ_minI 5 = .ok (.iload_n 0, 1) := by decide +kernel
theorem dJ_minI_6 : decode cJ_minI 6 = .ok (.goto 4, 3) := by decide +kernel
theorem dJ_minI_9 : decode cJ_minI 9 = .ok (.iload_n 1, 1) := by decide +kernel
theorem dJ_minI_10 : decode cJ_minI 10 = .ok (.ireturn, 1) := by decide +kernel
theorem mc_yJ_minI : Cond.code yJ_minI cJ_minI 2 (some .int) ∈ lw_g := wd_548
theorem ms_yJ_minI : Cond.static yJ_minI ∈ lw_g := wd_547
def yJ_maxL : MethodName := ⟨"java/lang/Math", "max", "(JJ)J"⟩
abbrev cJ_maxL : ByteArray := prog_15_method_66_code
theorem dJ_maxL_0 : decode cJ_maxL 0 = .ok (.lload_n 0, 1) := by decide +kernel
theorem dJ_maxL_1 : decode cJ_maxL 1 = .ok (.lload_n 2, 1) := by decide +kernel
theorem dJ_maxL_2 : decode cJ_maxL 2 = .ok (.lcmp, 1) := by decide +kernel
theorem dJ_maxL_3 : decode cJ_maxL 3 = .ok (.ifCond .lt 7, 3) := by decide +kernel
theorem dJ_maxL_6 : decode cJ_maxL 6 = .ok (.lload_n 0, 1) := by decide +kernel
theorem dJ_maxL_7 : decode cJ_maxL 7 = .ok (.goto 4, 3) := by decide +kernel
theorem dJ_maxL_10 : decode cJ_maxL 10 = .ok (.lload_n 2, 1) := by decide +kernel
theorem dJ_maxL_11 : decode cJ_maxL 11 = .ok (.lreturn, 1) := by decide +kernel
theorem mc_yJ_maxL : Cond.code yJ_maxL cJ_maxL 4 (some .long) ∈ lw_g := wd_925
theorem ms_yJ_maxL : Cond.static yJ_maxL ∈ lw_g := wd_924
def yJ_minL : MethodName := ⟨"java/lang/Math", "min", "(JJ)J"⟩
abbrev cJ_minL : ByteArray := prog_15_method_70_code
theorem dJ_minL_0 : decode cJ_minL 0 = .ok (.lload_n 0, 1) := by decide +kernel
theorem dJ_minL_1 : decode cJ_minL 1 = .ok (.lload_n 2, 1) := by decide +kernel
theorem dJ_minL_2 : decode cJ_minL 2 = .ok (.lcmp, 1) := by decide +kernel
theorem dJ_minL_3 : decode cJ_minL 3 = .ok (.ifCond .gt 7, 3) := by decide +kernel
theorem dJ_minL_6 : decode cJ_minL 6 = .ok (.lload_n 0, 1) := by decide +kernel
theorem dJ_minL_7 : decode cJ_minL 7 = .ok (.goto 4, 3) := by decide +kernel
theorem dJ_minL_10 : decode cJ_minL 10 = .ok (.lload_n 2, 1) := by decide +kernel
theorem dJ_minL_11 : decode cJ_minL 11 = .ok (.lreturn, 1) := by decide +kernel
theorem mc_yJ_minL : Cond.code yJ_minL cJ_minL 4 (some .long) ∈ lw_g := wd_922
theorem ms_yJ_minL : Cond.static yJ_minL ∈ lw_g := wd_921
def yJ_absI : MethodName := ⟨"java/lang/Math", "abs", "(I)I"⟩
abbrev cJ_absI : ByteArray := prog_15_method_59_code
theorem dJ_absI_0 : decode cJ_absI 0 = .ok (.iload_n 0, 1) := by decide +kernel
theorem dJ_absI_1 : decode cJ_absI 1 = .ok (.ifCond .ge 8, 3) := by decide +kernel
theorem dJ_absI_4 : decode cJ_absI 4 = .ok (.iload_n 0, 1) := by decide +kernel
theorem dJ_absI_5 : decode cJ_absI 5 = .ok (.ineg, 1) := by decide +kernel
theorem dJ_absI_6 : decode cJ_absI 6 = .ok (.goto 4, 3) := by decide +kernel
theorem dJ_absI_9 : decode cJ_absI 9 = .ok (.iload_n 0, 1) := by decide +kernel
theorem dJ_absI_10 : decode cJ_absI 10 = .ok (.ireturn, 1) := by decide +kernel
theorem mc_yJ_absI : Cond.code yJ_absI cJ_absI 1 (some .int) ∈ lw_g := wd_1131
theorem ms_yJ_absI : Cond.static yJ_absI ∈ lw_g := wd_1130
def yJ_len : MethodName := ⟨"java/lang/String", "length", "()I"⟩
abbrev cJ_len : ByteArray := prog_16_method_54_code
theorem dJ_len_0 : decode cJ_len 0 = .ok (.aload_n 0, 1) := by decide +kernel
theorem dJ_len_1 : decode cJ_len 1 = .ok (.getfield 9, 3) := by decide +kernel
theorem dJ_len_4 : decode cJ_len 4 = .ok (.arraylength, 1) := by decide +kernel
theorem dJ_len_5 : decode cJ_len 5 = .ok (.aload_n 0, 1) := by decide +kernel
theorem dJ_len_6 : decode cJ_len 6 = .ok (.invokevirtual 335, 3) := by decide +kernel
theorem dJ_len_9 : decode cJ_len 9 = .ok (.ishr, 1) := by decide +kernel
theorem dJ_len_10 : decode cJ_len 10 = .ok (.ireturn, 1) := by decide +kernel
theorem mt_yJ_len : jMth yJ_len cJ_len 1 (some .int) 0 := ⟨wd_562, wd_15, ⟨by decide +kernel, by decide +kernel, by decide +kernel⟩, by decide +kernel⟩
theorem mv_yJ_len : Cond.instanceMethod yJ_len ∈ lw_g ∧ Cond.selects yJ_len.cls yJ_len yJ_len ∈ lw_g := ⟨wd_560, wd_561⟩
def yJ_coder : MethodName := ⟨"java/lang/String", "coder", "()B"⟩
abbrev cJ_coder : ByteArray := prog_16_method_152_code
theorem dJ_coder_0 : decode cJ_coder 0 = .ok (.getstatic 38, 3) := by decide +kernel
theorem dJ_coder_3 : decode cJ_coder 3 = .ok (.ifCond .eq 10, 3) := by decide +kernel
theorem dJ_coder_6 : decode cJ_coder 6 = .ok (.aload_n 0, 1) := by decide +kernel
theorem dJ_coder_7 : decode cJ_coder 7 = .ok (.getfield 15, 3) := by decide +kernel
theorem dJ_coder_10 : decode cJ_coder 10 = .ok (.goto 4, 3) := by decide +kernel
theorem dJ_coder_13 : decode cJ_coder 13 = .ok (.iconst 1, 1) := by decide +kernel
theorem dJ_coder_14 : decode cJ_coder 14 = .ok (.ireturn, 1) := by decide +kernel
theorem mt_yJ_coder : jMth yJ_coder cJ_coder 1 (some .byte) 0 := ⟨wd_566, wd_15, ⟨by decide +kernel, by decide +kernel, by decide +kernel⟩, by decide +kernel⟩
theorem mv_yJ_coder : Cond.instanceMethod yJ_coder ∈ lw_g ∧ Cond.selects yJ_coder.cls yJ_coder yJ_coder ∈ lw_g := ⟨wd_564, wd_565⟩
def yJ_charAt : MethodName := ⟨"java/lang/String", "charAt", "(I)C"⟩
abbrev cJ_charAt : ByteArray := prog_16_method_56_code
theorem dJ_charAt_0 : decode cJ_charAt 0 = .ok (.aload_n 0, 1) := by decide +kernel
theorem dJ_charAt_1 : decode cJ_charAt 1 = .ok (.invokevirtual 492, 3) := by decide +kernel
theorem dJ_charAt_4 : decode cJ_charAt 4 = .ok (.ifCond .eq 12, 3) := by decide +kernel
theorem dJ_charAt_7 : decode cJ_charAt 7 = .ok (.aload_n 0, 1) := by decide +kernel
theorem dJ_charAt_8 : decode cJ_charAt 8 = .ok (.getfield 9, 3) := by decide +kernel
theorem dJ_charAt_11 : decode cJ_charAt 11 = .ok (.iload_n 1, 1) := by decide +kernel
theorem dJ_charAt_12 : decode cJ_charAt 12 = .ok (.invokestatic 495, 3) := by decide +kernel
theorem dJ_charAt_15 : decode cJ_charAt 15 = .ok (.ireturn, 1) := by decide +kernel
theorem dJ_charAt_16 : decode cJ_charAt 16 = .ok (.aload_n 0, 1) := by decide +kernel
theorem dJ_charAt_17 : decode cJ_charAt 17 = .ok (.getfield 9, 3) := by decide +kernel
theorem dJ_charAt_20 : decode cJ_charAt 20 = .ok (.iload_n 1, 1) := by decide +kernel
theorem dJ_charAt_21 : decode cJ_charAt 21 = .ok (.invokestatic 498, 3) := by decide +kernel
theorem dJ_charAt_24 : decode cJ_charAt 24 = .ok (.ireturn, 1) := by decide +kernel
theorem mt_yJ_charAt : jMth yJ_charAt cJ_charAt 2 (some .char) 1 := ⟨wd_572, wd_15, ⟨by decide +kernel, by decide +kernel, by decide +kernel⟩, by decide +kernel⟩
theorem mv_yJ_charAt : Cond.instanceMethod yJ_charAt ∈ lw_g ∧ Cond.selects yJ_charAt.cls yJ_charAt yJ_charAt ∈ lw_g := ⟨wd_570, wd_571⟩
def yJ_isLat : MethodName := ⟨"java/lang/String", "isLatin1", "()Z"⟩
abbrev cJ_isLat : ByteArray := prog_16_method_154_code
theorem dJ_isLat_0 : decode cJ_isLat 0 = .ok (.getstatic 38, 3) := by decide +kernel
theorem dJ_isLat_3 : decode cJ_isLat 3 = .ok (.ifCond .eq 14, 3) := by decide +kernel
theorem dJ_isLat_6 : decode cJ_isLat 6 = .ok (.aload_n 0, 1) := by decide +kernel
theorem dJ_isLat_7 : decode cJ_isLat 7 = .ok (.getfield 15, 3) := by decide +kernel
theorem dJ_isLat_10 : decode cJ_isLat 10 = .ok (.ifCond .ne 7, 3) := by decide +kernel
theorem dJ_isLat_13 : decode cJ_isLat 13 = .ok (.iconst 1, 1) := by decide +kernel
theorem dJ_isLat_14 : decode cJ_isLat 14 = .ok (.goto 4, 3) := by decide +kernel
theorem dJ_isLat_17 : decode cJ_isLat 17 = .ok (.iconst 0, 1) := by decide +kernel
theorem dJ_isLat_18 : decode cJ_isLat 18 = .ok (.ireturn, 1) := by decide +kernel
theorem mt_yJ_isLat : jMth yJ_isLat cJ_isLat 1 (some .boolean) 0 := ⟨wd_576, wd_15, ⟨by decide +kernel, by decide +kernel, by decide +kernel⟩, by decide +kernel⟩
theorem mv_yJ_isLat : Cond.instanceMethod yJ_isLat ∈ lw_g ∧ Cond.selects yJ_isLat.cls yJ_isLat yJ_isLat ∈ lw_g := ⟨wd_574, wd_575⟩
def yJ_latAt : MethodName := ⟨"java/lang/StringLatin1", "charAt", "([BI)C"⟩
abbrev cJ_latAt : ByteArray := prog_17_method_2_code
theorem dJ_latAt_0 : decode cJ_latAt 0 = .ok (.iload_n 1, 1) := by decide +kernel
theorem dJ_latAt_1 : decode cJ_latAt 1 = .ok (.aload_n 0, 1) := by decide +kernel
theorem dJ_latAt_2 : decode cJ_latAt 2 = .ok (.arraylength, 1) := by decide +kernel
theorem dJ_latAt_3 : decode cJ_latAt 3 = .ok (.invokestatic 9, 3) := by decide +kernel
theorem dJ_latAt_6 : decode cJ_latAt 6 = .ok (.aload_n 0, 1) := by decide +kernel
theorem dJ_latAt_7 : decode cJ_latAt 7 = .ok (.iload_n 1, 1) := by decide +kernel
theorem dJ_latAt_8 : decode cJ_latAt 8 = .ok (.baload, 1) := by decide +kernel
theorem dJ_latAt_9 : decode cJ_latAt 9 = .ok (.sipush 255, 3) := by decide +kernel
theorem dJ_latAt_12 : decode cJ_latAt 12 = .ok (.iand, 1) := by decide +kernel
theorem dJ_latAt_13 : decode cJ_latAt 13 = .ok (.i2c, 1) := by decide +kernel
theorem dJ_latAt_14 : decode cJ_latAt 14 = .ok (.ireturn, 1) := by decide +kernel
theorem mt_yJ_latAt : jMth yJ_latAt cJ_latAt 2 (some .char) 2 := ⟨wd_579, wd_16, ⟨by decide +kernel, by decide +kernel, by decide +kernel⟩, by decide +kernel⟩
theorem ms_yJ_latAt : Cond.static yJ_latAt ∈ lw_g := wd_578
def yJ_ckS : MethodName := ⟨"java/lang/String", "checkIndex", "(II)V"⟩
abbrev cJ_ckS : ByteArray := prog_16_method_155_code
theorem dJ_ckS_0 : decode cJ_ckS 0 = .ok (.iload_n 0, 1) := by decide +kernel
theorem dJ_ckS_1 : decode cJ_ckS 1 = .ok (.iload_n 1, 1) := by decide +kernel
theorem dJ_ckS_2 : decode cJ_ckS 2 = .ok (.getstatic 1053, 3) := by decide +kernel
theorem dJ_ckS_5 : decode cJ_ckS 5 = .ok (.invokestatic 1059, 3) := by decide +kernel
theorem dJ_ckS_8 : decode cJ_ckS 8 = .ok (.pop, 1) := by decide +kernel
theorem dJ_ckS_9 : decode cJ_ckS 9 = .ok (.return_, 1) := by decide +kernel
theorem mt_yJ_ckS : jMth yJ_ckS cJ_ckS 2 none 2 := ⟨wd_582, wd_15, ⟨by decide +kernel, by decide +kernel, by decide +kernel⟩, by decide +kernel⟩
theorem ms_yJ_ckS : Cond.static yJ_ckS ∈ lw_g := wd_581
def yJ_ckP : MethodName := ⟨"jdk/internal/util/Preconditions", "checkIndex", "(IILjava/util/function/BiFunction;)I"⟩
abbrev cJ_ckP : ByteArray := prog_20_method_11_code
theorem dJ_ckP_0 : decode cJ_ckP 0 = .ok (.iload_n 0, 1) := by decide +kernel
theorem dJ_ckP_1 : decode cJ_ckP 1 = .ok (.ifCond .lt 8, 3) := by decide +kernel
theorem dJ_ckP_4 : decode cJ_ckP 4 = .ok (.iload_n 0, 1) := by decide +kernel
theorem dJ_ckP_5 : decode cJ_ckP 5 = .ok (.iload_n 1, 1) := by decide +kernel
theorem dJ_ckP_6 : decode cJ_ckP 6 = .ok (.if_icmp .lt 10, 3) := by decide +kernel
theorem dJ_ckP_9 : decode cJ_ckP 9 = .ok (.aload_n 2, 1) := by decide +kernel
theorem dJ_ckP_10 : decode cJ_ckP 10 = .ok (.iload_n 0, 1) := by decide +kernel
theorem dJ_ckP_11 : decode cJ_ckP 11 = .ok (.iload_n 1, 1) := by decide +kernel
theorem dJ_ckP_12 : decode cJ_ckP 12 = .ok (.invokestatic 95, 3) := by decide +kernel
theorem dJ_ckP_16 : decode cJ_ckP 16 = .ok (.iload_n 0, 1) := by decide +kernel
theorem dJ_ckP_17 : decode cJ_ckP 17 = .ok (.ireturn, 1) := by decide +kernel
theorem mt_yJ_ckP : jMth yJ_ckP cJ_ckP 3 (some .int) 3 := ⟨wd_587, wd_17, ⟨by decide +kernel, by decide +kernel, by decide +kernel⟩, by decide +kernel⟩
theorem ms_yJ_ckP : Cond.static yJ_ckP ∈ lw_g := wd_586
section RJ
variable {X : jX} {y : MethodName} {cc : ByteArray} {mL : Nat} {ret : Option FieldType} {R : Room} {QF : jQF} {cells slots n : Nat} {N : jN} {M : jM} {pc : Nat} {ls : List (Nat × jV)} {st : List jV}
variable {ix : Nat}
theorem e_maxI (q : Nat) {a b : Int} (hml : Cond.methodLink y.cls ix yJ_maxI ∈ lw_g) (hdg : decode cc pc = .ok (.invokestatic ix, 3)) (ha : (-2147483648 ≤ a ∧ a ≤ 2147483647)) (hb : (-2147483648 ≤ b ∧ b ≤ 2147483647)) (hrest : (st.map jcat).sum ≤ 8) (hfr : jRoom R 0 0 0 cells slots) (hq : pc + 3 = q) (kk : gE X y cc mL ret R QF cells slots n N M q ls (jI (max a b) :: st)) : gE X y cc mL ret R QF cells slots n N M pc ls (jI b :: jI a :: st) := by
  subst hq
  intro p l e s m args below meth c H locs lsA C hz hR hS hl
  have e1 : ((st.map (jv X)).map fun v => v.category) = st.map jcat := by
    rw [List.map_map]
    apply List.map_congr_left
    intro v _
    exact jcat_eq X v
  have h := kk p l e s m args below meth c H locs lsA C hz hR hS hl
  refine va_mmax C.1 C.2.1 (C.2.2.1.trans hl.1.symm) C.2.2.2.2.2.2.1 (C.2.2.2.2.2.2.2.1 _ hml) (C.2.2.2.2.2.2.2.1 _ ms_yJ_maxI) (C.2.2.2.2.2.2.2.1 _ wd_14) (C.2.2.2.2.2.2.2.1 _ mc_yJ_maxI) hfr.1 (by rw [e1]; have := hfr.2.1; omega) hfr.2.2.1 hfr.2.2.2 hdg ?_
  have e2 : (if Int32.ofInt a < Int32.ofInt b then Int32.ofInt b else Int32.ofInt a) = Int32.ofInt (max a b) := by
    by_cases hc : a < b
    · rw [if_pos ((of_lt32 ha hb).mpr hc), show max a b = b by omega]
    · rw [if_neg (fun q => hc ((of_lt32 ha hb).mp q)), show max a b = a by omega]
  rw [e2]
  exact h
theorem e_minI (q : Nat) {a b : Int} (hml : Cond.methodLink y.cls ix yJ_minI ∈ lw_g) (hdg : decode cc pc = .ok (.invokestatic ix, 3)) (ha : (-2147483648 ≤ a ∧ a ≤ 2147483647)) (hb : (-2147483648 ≤ b ∧ b ≤ 2147483647)) (hrest : (st.map jcat).sum ≤ 8) (hfr : jRoom R 0 0 0 cells slots) (hq : pc + 3 = q) (kk : gE X y cc mL ret R QF cells slots n N M q ls (jI (min a b) :: st)) : gE X y cc mL ret R QF cells slots n N M pc ls (jI b :: jI a :: st) := by
  subst hq
  intro p l e s m args below meth c H locs lsA C hz hR hS hl
  have e1 : ((st.map (jv X)).map fun v => v.category) = st.map jcat := by
    rw [List.map_map]
    apply List.map_congr_left
    intro v _
    exact jcat_eq X v
  have h := kk p l e s m args below meth c H locs lsA C hz hR hS hl
  refine va_mmin C.1 C.2.1 (C.2.2.1.trans hl.1.symm) C.2.2.2.2.2.2.1 (C.2.2.2.2.2.2.2.1 _ hml) (C.2.2.2.2.2.2.2.1 _ ms_yJ_minI) (C.2.2.2.2.2.2.2.1 _ wd_14) (C.2.2.2.2.2.2.2.1 _ mc_yJ_minI) hfr.1 (by rw [e1]; have := hfr.2.1; omega) hfr.2.2.1 hfr.2.2.2 hdg ?_
  have e2 : (if Int32.ofInt b < Int32.ofInt a then Int32.ofInt b else Int32.ofInt a) = Int32.ofInt (min a b) := by
    by_cases hc : b < a
    · rw [if_pos ((of_lt32 hb ha).mpr hc), show min a b = b by omega]
    · rw [if_neg (fun q => hc ((of_lt32 hb ha).mp q)), show min a b = a by omega]
  rw [e2]
  exact h
theorem e_maxL (q : Nat) {a b : Int} (hml : Cond.methodLink y.cls ix yJ_maxL ∈ lw_g) (hdg : decode cc pc = .ok (.invokestatic ix, 3)) (ha : (-9223372036854775808 ≤ a ∧ a ≤ 9223372036854775807)) (hb : (-9223372036854775808 ≤ b ∧ b ≤ 9223372036854775807)) (hrest : (st.map jcat).sum ≤ 8) (hfr : jRoom R 0 0 0 cells slots) (hq : pc + 3 = q) (kk : gE X y cc mL ret R QF cells slots n N M q ls (jL (max a b) :: st)) : gE X y cc mL ret R QF cells slots n N M pc ls (jL b :: jL a :: st) := by
  subst hq
  intro p l e s m args below meth c H locs lsA C hz hR hS hl
  have e1 : ((st.map (jv X)).map fun v => v.category) = st.map jcat := by
    rw [List.map_map]
    apply List.map_congr_left
    intro v _
    exact jcat_eq X v
  have h := kk p l e s m args below meth c H locs lsA C hz hR hS hl
  refine va_mmax_long C.1 C.2.1 (C.2.2.1.trans hl.1.symm) C.2.2.2.2.2.2.1 (C.2.2.2.2.2.2.2.1 _ hml) (C.2.2.2.2.2.2.2.1 _ ms_yJ_maxL) (C.2.2.2.2.2.2.2.1 _ wd_14) (C.2.2.2.2.2.2.2.1 _ mc_yJ_maxL) hfr.1 (by rw [e1]; have := hfr.2.1; omega) hfr.2.2.1 hfr.2.2.2 hdg ?_
  have e2 : (if Int64.ofInt b < Int64.ofInt a then Int64.ofInt a else Int64.ofInt b) = Int64.ofInt (max a b) := by
    by_cases hc : b < a
    · rw [if_pos ((of_lt64 hb ha).mpr hc), show max a b = a by omega]
    · rw [if_neg (fun q => hc ((of_lt64 hb ha).mp q)), show max a b = b by omega]
  rw [e2]
  exact h
theorem e_minL (q : Nat) {a b : Int} (hml : Cond.methodLink y.cls ix yJ_minL ∈ lw_g) (hdg : decode cc pc = .ok (.invokestatic ix, 3)) (ha : (-9223372036854775808 ≤ a ∧ a ≤ 9223372036854775807)) (hb : (-9223372036854775808 ≤ b ∧ b ≤ 9223372036854775807)) (hrest : (st.map jcat).sum ≤ 8) (hfr : jRoom R 0 0 0 cells slots) (hq : pc + 3 = q) (kk : gE X y cc mL ret R QF cells slots n N M q ls (jL (min a b) :: st)) : gE X y cc mL ret R QF cells slots n N M pc ls (jL b :: jL a :: st) := by
  subst hq
  intro p l e s m args below meth c H locs lsA C hz hR hS hl
  have e1 : ((st.map (jv X)).map fun v => v.category) = st.map jcat := by
    rw [List.map_map]
    apply List.map_congr_left
    intro v _
    exact jcat_eq X v
  have h := kk p l e s m args below meth c H locs lsA C hz hR hS hl
  refine va_mmin_long C.1 C.2.1 (C.2.2.1.trans hl.1.symm) C.2.2.2.2.2.2.1 (C.2.2.2.2.2.2.2.1 _ hml) (C.2.2.2.2.2.2.2.1 _ ms_yJ_minL) (C.2.2.2.2.2.2.2.1 _ wd_14) (C.2.2.2.2.2.2.2.1 _ mc_yJ_minL) hfr.1 (by rw [e1]; have := hfr.2.1; omega) hfr.2.2.1 hfr.2.2.2 hdg ?_
  have e2 : (if Int64.ofInt b < Int64.ofInt a then Int64.ofInt b else Int64.ofInt a) = Int64.ofInt (min a b) := by
    by_cases hc : b < a
    · rw [if_pos ((of_lt64 hb ha).mpr hc), show min a b = b by omega]
    · rw [if_neg (fun q => hc ((of_lt64 hb ha).mp q)), show min a b = a by omega]
  rw [e2]
  exact h
theorem e_absI (q : Nat) {a : Int} (hml : Cond.methodLink y.cls ix yJ_absI ∈ lw_g) (hdg : decode cc pc = .ok (.invokestatic ix, 3)) (ha : (-2147483648 ≤ a ∧ a ≤ 2147483647)) (hrest : (st.map jcat).sum ≤ 8) (hfr : jRoom R 0 0 0 cells slots) (hq : pc + 3 = q) (kk : gE X y cc mL ret R QF cells slots n N M q ls (jI (if a < 0 then -a else a) :: st)) : gE X y cc mL ret R QF cells slots n N M pc ls (jI a :: st) := by
  subst hq
  intro p l e s m args below meth c H locs lsA C hz hR hS hl
  have e1 : ((st.map (jv X)).map fun v => v.category) = st.map jcat := by
    rw [List.map_map]
    apply List.map_congr_left
    intro v _
    exact jcat_eq X v
  have h := kk p l e s m args below meth c H locs lsA C hz hR hS hl
  refine va_mabs C.1 C.2.1 (C.2.2.1.trans hl.1.symm) C.2.2.2.2.2.2.1 (C.2.2.2.2.2.2.2.1 _ hml) (C.2.2.2.2.2.2.2.1 _ ms_yJ_absI) (C.2.2.2.2.2.2.2.1 _ wd_14) (C.2.2.2.2.2.2.2.1 _ mc_yJ_absI) hfr.1 (by rw [e1]; have := hfr.2.1; omega) hfr.2.2.1 hfr.2.2.2 hdg ?_
  have e2 : (if 0 ≤ Int32.ofInt a then Int32.ofInt a else 0 - Int32.ofInt a) = Int32.ofInt (if a < 0 then -a else a) := by
    by_cases hc : a < 0
    · rw [of_zero32, if_neg (fun q => by have := (of_le32 (a := 0) (by decide) ha).mp q; omega), if_pos hc, of_sub32]
      congr 1
      omega
    · rw [of_zero32, if_pos ((of_le32 (a := 0) (by decide) ha).mpr (by omega)), if_neg hc]
  rw [e2]
  exact h
end RJ
