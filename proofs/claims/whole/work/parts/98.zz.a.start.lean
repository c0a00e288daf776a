/-! THE START: what the tables say -/
theorem lw_sub : ∀ w ∈ lw_g, w ∈ lw_tbl := fun _ h => (List.mem_filter.mp h).1
theorem st_cls {args : Array Value} {s : State} (hts : ∀ w ∈ lw_tbl, w.before args s = true) : ∃ D : va_G, ∀ (c : Nat) (q : vw_C), vwCl[c]? = some q → u_Kn s q.1 q.2.1 q.2.2 (D.1 c) (D.2 c) := by
  have htg : ∀ w ∈ lw_g, w.before args s = true := fun w h => hts w (lw_sub w h)
  obtain ⟨c0, i0, h0⟩ := u_known (C := RX0) (T := TX0) (N := 5) (n := 5) htg inX0 (htg _ wd_109)
  obtain ⟨c1, i1, h1⟩ := u_known (C := RX1) (T := TX1) (N := 6) (n := 6) htg inX1 (htg _ wd_35)
  obtain ⟨c2, i2, h2⟩ := u_known (C := RX2) (T := TX2) (N := 5) (n := 5) htg inX2 (htg _ wd_76)
  obtain ⟨c3, i3, h3⟩ := u_known (C := RX3) (T := TX3) (N := 5) (n := 5) htg inX3 (htg _ wd_143)
  obtain ⟨c4, i4, h4⟩ := u_known (C := RX4) (T := TX4) (N := 14) (n := 14) htg inX4 (htg _ wd_451)
  obtain ⟨c5, i5, h5⟩ := u_known (C := RX5) (T := TX5) (N := 13) (n := 13) htg inX5 (htg _ wd_174)
  obtain ⟨c6, i6, h6⟩ := u_known (C := RX6) (T := TX6) (N := 6) (n := 6) htg inX6 (htg _ wd_364)
  obtain ⟨c7, i7, h7⟩ := u_known (C := RX7) (T := TX7) (N := 3) (n := 3) htg inX7 (htg _ wd_433)
  obtain ⟨c8, i8, h8⟩ := u_known (C := RX8) (T := TX8) (N := 20) (n := 20) htg inX8 (htg _ wd_29)
  obtain ⟨c9, i9, h9⟩ := u_known (C := RX9) (T := TX9) (N := 7) (n := 7) htg inX9 (htg _ wd_370)
  obtain ⟨c10, i10, h10⟩ := u_known (C := RX10) (T := TX10) (N := 4) (n := 4) htg inX10 (htg _ wd_248)
  obtain ⟨c11, i11, h11⟩ := u_known (C := RX11) (T := TX11) (N := 6) (n := 6) htg inX11 (htg _ wd_21)
  obtain ⟨c12, i12, h12⟩ := u_known (C := RX12) (T := TX12) (N := 34) (n := 34) htg inX12 (htg _ wd_1274)
  refine ⟨(fun k => match k with
    | 0 => c0
    | 1 => c1
    | 2 => c2
    | 3 => c3
    | 4 => c4
    | 5 => c5
    | 6 => c6
    | 7 => c7
    | 8 => c8
    | 9 => c9
    | 10 => c10
    | 11 => c11
    | _ => c12, fun k => match k with
    | 0 => i0
    | 1 => i1
    | 2 => i2
    | 3 => i3
    | 4 => i4
    | 5 => i5
    | 6 => i6
    | 7 => i7
    | 8 => i8
    | 9 => i9
    | 10 => i10
    | 11 => i11
    | _ => i12), fun c q h => ?_⟩
  have hc : c < 13 := (List.getElem?_eq_some_iff.mp h).1
  match c, hc, h with
  | 0, _, h => cases h; exact h0
  | 1, _, h => cases h; exact h1
  | 2, _, h => cases h; exact h2
  | 3, _, h => cases h; exact h3
  | 4, _, h => cases h; exact h4
  | 5, _, h => cases h; exact h5
  | 6, _, h => cases h; exact h6
  | 7, _, h => cases h; exact h7
  | 8, _, h => cases h; exact h8
  | 9, _, h => cases h; exact h9
  | 10, _, h => cases h; exact h10
  | 11, _, h => cases h; exact h11
  | 12, _, h => cases h; exact h12
  | k + 13, hc, _ => exact absurd hc (by omega)
theorem st_ac {args : Array Value} {s : State} {ty : FieldType} (h : (Cond.arrayClass ty).before args s = true) (hr : ∀ cA : ClassId, s.vm.findClass ("[" ++ ty.toString) = some cA → va_RA s cA ty) : ∃ cA : ClassId, ArrOfT s cA ty ∧ va_RA s cA ty := by
  obtain ⟨cA, kA, comp, h1, h2, h3⟩ := Cond.arrayClass_spec h
  exact ⟨cA, fun n z => ⟨fun k h => (by cases h), kA, h2, comp, h3⟩, hr cA h1⟩
theorem st_ao {args : Array Value} {s : State} {C : String} (h : (Cond.arrayOver (.object C)).before args s = true) : ∃ cA : ClassId, ArrOfT s cA (.object C) ∧ va_RA s cA (.object C) := by
  obtain ⟨comp, cA, kA, f1, -, f2, f3, f4⟩ := Cond.arrayOver_spec h
  exact ⟨cA, fun n z => ⟨fun k h => (by cases h), kA, f2, comp, f3⟩, kA, comp, f2, f3, f1, f4⟩
theorem st_aoa {args : Array Value} {s : State} {t : FieldType} (h : (Cond.arrayOver (.array t)).before args s = true) : ∃ cA : ClassId, ArrOfT s cA (.array t) ∧ va_RA s cA (.array t) := by
  obtain ⟨comp, cA, kA, -, f2, f3, f4⟩ := Cond.arrayOver_specA h
  exact ⟨cA, fun n z => ⟨fun k h => (by cases h), kA, f2, comp, f3⟩, f4⟩
theorem st_arr {args : Array Value} {s : State} (hts : ∀ w ∈ lw_tbl, w.before args s = true) : ∃ cA : Nat → ClassId, ∀ t : Nat, t < 11 → ArrOfT s (cA t) (jty t) ∧ va_RA s (cA t) (jty t) := by
  obtain ⟨c0, a0, r0⟩ := st_ac (hts _ (lw_sub _ wd_74)) (fun _ h => h)
  obtain ⟨c1, a1, r1⟩ := st_ac (hts _ (lw_sub _ wd_402)) (fun _ h => h)
  obtain ⟨c2, a2, r2⟩ := st_ac (hts _ (lw_sub _ wd_401)) (fun _ h => h)
  obtain ⟨c3, a3, r3⟩ := st_ac (hts _ (lw_sub _ wd_449)) (fun _ h => h)
  obtain ⟨c4, a4, r4⟩ := st_ao (hts _ wn_100)
  obtain ⟨c5, a5, r5⟩ := st_ao (hts _ wn_102)
  obtain ⟨c6, a6, r6⟩ := st_ao (hts _ wn_104)
  obtain ⟨c7, a7, r7⟩ := st_ao (hts _ wn_106)
  obtain ⟨c8, a8, r8⟩ := st_aoa (hts _ wn_108)
  obtain ⟨c9, a9, r9⟩ := st_ao (hts _ wn_362)
  obtain ⟨c10, a10, r10⟩ := st_ao (hts _ wn_432)
  refine ⟨fun k => match k with
    | 0 => c0
    | 1 => c1
    | 2 => c2
    | 3 => c3
    | 4 => c4
    | 5 => c5
    | 6 => c6
    | 7 => c7
    | 8 => c8
    | 9 => c9
    | _ => c10, fun t ht => ?_⟩
  match t, ht with
  | 0, _ => exact ⟨a0, r0⟩
  | 1, _ => exact ⟨a1, r1⟩
  | 2, _ => exact ⟨a2, r2⟩
  | 3, _ => exact ⟨a3, r3⟩
  | 4, _ => exact ⟨a4, r4⟩
  | 5, _ => exact ⟨a5, r5⟩
  | 6, _ => exact ⟨a6, r6⟩
  | 7, _ => exact ⟨a7, r7⟩
  | 8, _ => exact ⟨a8, r8⟩
  | 9, _ => exact ⟨a9, r9⟩
  | 10, _ => exact ⟨a10, r10⟩
  | k + 11, ht => exact absurd ht (by omega)
theorem st_K {args : Array Value} {s : State} (hts : ∀ w ∈ lw_tbl, w.before args s = true) : ∃ (D : va_G) (cA : Nat → ClassId), va_K D vwCl ((List.range 11).map (fun t => (cA t, jty t))) s := by
  obtain ⟨D, hD⟩ := st_cls hts
  obtain ⟨cA, hA⟩ := st_arr hts
  refine ⟨D, cA, hD, fun k q h => ?_⟩
  rw [List.getElem?_map] at h
  by_cases hk : k < 11
  · rw [List.getElem?_range hk] at h
    cases h
    exact hA k hk
  · rw [List.getElem?_eq_none (by rw [List.length_range]; omega)] at h
    cases h
theorem st_Nst {args : Array Value} {s : State} (hts : ∀ w ∈ lw_tbl, w.before args s = true) : jNst s := by
  refine ⟨?_, ?_, ?_, hts _ wn_108⟩
  · exact List.forall_mem_cons.mpr ⟨va_Nw.of rfl (hts _ wn_44), List.forall_mem_cons.mpr ⟨va_Nw.of rfl (hts _ wn_644), List.forall_mem_cons.mpr ⟨va_Nw.of rfl (hts _ wn_646), List.forall_mem_cons.mpr ⟨va_Nw.of rfl (hts _ wn_693), List.forall_mem_cons.mpr ⟨va_Nw.of rfl (hts _ wn_695), fun _ h => absurd h List.not_mem_nil⟩⟩⟩⟩⟩
  · exact List.forall_mem_cons.mpr ⟨va_Nw.of rfl (hts _ wn_77), List.forall_mem_cons.mpr ⟨va_Nw.of rfl (hts _ wn_110), List.forall_mem_cons.mpr ⟨va_Nw.of rfl (hts _ wn_144), List.forall_mem_cons.mpr ⟨va_Nw.of rfl (hts _ wn_175), List.forall_mem_cons.mpr ⟨va_Nw.of rfl (hts _ wn_249), List.forall_mem_cons.mpr ⟨va_Nw.of rfl (hts _ wn_365), List.forall_mem_cons.mpr ⟨va_Nw.of rfl (hts _ wn_371), List.forall_mem_cons.mpr ⟨va_Nw.of rfl (hts _ wn_406), List.forall_mem_cons.mpr ⟨va_Nw.of rfl (hts _ wn_434), List.forall_mem_cons.mpr ⟨va_Nw.of rfl (hts _ wn_452), List.forall_mem_cons.mpr ⟨va_Nw.of rfl (hts _ wn_783), fun _ h => absurd h List.not_mem_nil⟩⟩⟩⟩⟩⟩⟩⟩⟩⟩⟩
  · exact List.forall_mem_cons.mpr ⟨va_AO.of (hts _ wn_100), List.forall_mem_cons.mpr ⟨va_AO.of (hts _ wn_102), List.forall_mem_cons.mpr ⟨va_AO.of (hts _ wn_104), List.forall_mem_cons.mpr ⟨va_AO.of (hts _ wn_106), List.forall_mem_cons.mpr ⟨va_AO.of (hts _ wn_362), List.forall_mem_cons.mpr ⟨va_AO.of (hts _ wn_432), fun _ h => absurd h List.not_mem_nil⟩⟩⟩⟩⟩⟩
