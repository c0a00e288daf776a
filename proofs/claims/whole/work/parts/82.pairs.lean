/-! TRIPS *** the class: the least, whole *** -/
theorem lst_nil {T : List Int → Int → Prop} {no : Int} (h : no ≠ 0) : Lst T [] no 0 := Or.inr ⟨fun e => h e.symm, ⟨0, rfl, rfl⟩, fun k c hc => by
  cases k with
  | zero => rw [hc.2]; exact Int.le_refl _
  | succ k =>
    obtain ⟨p, r, t, d, hs, hp, -⟩ := hc
    exact absurd hs.1 hp⟩
theorem Lst.no {T : List Int → Int → Prop} {l : List Int} {no no2 v w : Int} (h : Lst T l no v) (h1 : v = no → w = no2) (h2 : v ≠ no → w = v ∧ w ≠ no2) : Lst T l no2 w := by
  rcases h with ⟨a, b⟩ | ⟨a, b, c⟩
  · exact Or.inl ⟨h1 a, b⟩
  · have q := h2 a
    rw [← q.1] at b c
    exact Or.inr ⟨q.2, b, c⟩
theorem mostS_99 {f : Int → Int} : ∀ (j S : Nat), (∀ i : Int, 0 ≤ i → i < j → f i ≤ 99) → mostS f j S ≤ 99
  | 0, _, _ => by
    rw [mostS]
    omega
  | j + 1, S, h => by
    have ih := mostS_99 j S (fun i a b => h i a (by omega))
    have q := h j (by omega) (by omega)
    rw [mostS]
    split <;> omega
theorem l_tl {X : jX} {Y : jM} {Q : Int → jM → Prop} {a : Int → Int} {arms all : Int} {g : Nat → Int} {n : Nat} (har : 1 ≤ arms ∧ arms ≤ 99) (hn8 : n ≤ 8) (hI : Items a g n Y) (hall : all = ((2 ^ n : Nat) : Int) - 1) (hq : ∀ W : jM, Oth1 911 Y W → Led a arms g n 1073741824 W 911 (2 ^ n) → jE X yX4_leastTrips cX4_leastTrips 7 (some .int) 2 Q W 134 [(0, jR 903), (1, jI arms), (2, jI all), (3, jI (2 ^ n : Nat))] []) : ∀ k s : Nat, s + k = 2 ^ n → 0 < s → ∀ W : jM, Oth1 911 Y W → Led a arms g n 1073741824 W 911 s → ∀ ss : Int, ss = s → jE X yX4_leastTrips cX4_leastTrips 7 (some .int) 2 Q W 26 [(0, jR 903), (1, jI arms), (2, jI all), (3, jI ss)] [] := by
  intro k
  induction k with
  | zero =>
    intro s hs h0 W hO hL ss hss
    have e : s = 2 ^ n := by omega
    subst e
    rw [hss]
    obtain ⟨P, hP⟩ : ∃ P : Nat, 2 ^ n = P := ⟨_, rfl⟩
    have hs8 : 2 ^ n ≤ 256 := Nat.pow_le_pow_right (by decide) hn8
    rw [hP] at hs8
    refine e_iload_n (i := 3) 27 dX4_leastTrips_26 rfl rfl rfl ?_
    refine e_iload_n (i := 2) 28 dX4_leastTrips_27 rfl rfl rfl ?_
    refine e_icmp_gt 31 134 dX4_leastTrips_28 (by omega) (by omega) (by decide) rfl (fun b28 => ?_) (fun b28 => ?_)
    · skip
      exact hq W hO hL
    · omega
  | succ k ih =>
    intro s hs h0 W hO hL ss hss
    have hsn : s < 2 ^ n := by omega
    obtain ⟨P, hP⟩ : ∃ P : Nat, 2 ^ n = P := ⟨_, rfl⟩
    have hs8 : 2 ^ n ≤ 256 := Nat.pow_le_pow_right (by decide) hn8
    rw [hP] at hs8
    obtain ⟨b, b1, b2, b3⟩ := jlow ⟨s, by omega⟩ h0
    have b1 : jand ss (-ss) = ((2 ^ b.val : Nat) : Int) := by rw [hss]; exact b1
    have hbn : b.val < n := by
      by_cases e : b.val < n
      · exact e
      · rw [show (Fin.mk s (by omega) : Fin 256).val = s from rfl, tb_low hsn (by omega)] at b2
        exact absurd b2 (by decide)
    have hlow : ∀ j, j < b.val → s.testBit j = false := fun j hj => b3 ⟨j, by omega⟩ hj
    refine e_iload_n (i := 3) 27 dX4_leastTrips_26 rfl rfl rfl ?_
    refine e_iload_n (i := 2) 28 dX4_leastTrips_27 rfl rfl rfl ?_
    refine e_icmp_gt 31 134 dX4_leastTrips_28 (by omega) (by omega) (by decide) rfl (fun b28 => ?_) (fun b28 => ?_)
    · omega
    · skip
      refine e_aload_n (i := 0) 32 dX4_leastTrips_31 rfl rfl rfl ?_
      refine e_getr (j := 8) 35 fl_4_34 dX4_leastTrips_32 at_903 rfl rfl tp_903_8 rfl ?_
      refine e_iload_n (i := 3) 36 dX4_leastTrips_35 rfl rfl rfl ?_
      refine e_ldc (z := (1073741824)) 38 (ix := 141) wd_1047 (by decide) dX4_leastTrips_36 rfl ?_
      refine e_iast 39 dX4_leastTrips_38 ar_911 (by omega) (by omega) (by decide) rfl ?_
      refine e_iload_n (i := 3) 40 dX4_leastTrips_39 rfl rfl rfl ?_
      refine e_iload_n (i := 3) 41 dX4_leastTrips_40 rfl rfl rfl ?_
      refine e_ineg 42 dX4_leastTrips_41 rfl ?_
      refine e_iand 43 dX4_leastTrips_42 rfl ?_
      rw [b1]
      refine e_istore (lsn := [(4, _), (0, _), (1, _), (2, _), (3, _)]) 45 dX4_leastTrips_43 (by decide) rfl rfl ?_
      refine e_iload_n (i := 3) 46 dX4_leastTrips_45 rfl rfl rfl ?_
      refine e_istore (lsn := [(5, _), (4, _), (0, _), (1, _), (2, _), (3, _)]) 48 dX4_leastTrips_46 (by decide) rfl rfl ?_
      refine e_ls (ls2 := [(0, _), (1, _), (2, _), (3, _), (4, _), (5, _)]) rfl ?_
      refine l_tp har hn8 hI hss hsn h0 rfl hbn (fun W2 hO2 hL2 hP2 hB2 => ?_) (s + 1) s (by omega) (Nat.and_self s) (jset W 911 ss 1073741824) hO.set (hL.set hss) ?_ (Or.inl jset_same) ss hss _ rfl
      · refine e_iinc (lsn := [(3, _), (0, _), (1, _), (2, _), (4, _), (5, _)]) 131 dX4_leastTrips_128 rfl (by decide) rfl rfl ?_
        refine e_goto 26 dX4_leastTrips_131 (by decide) ?_
        refine e_ls (ls2 := [(0, _), (1, _), (2, _), (3, _)]) rfl ?_
        rw [hss] at hP2 hB2
        exact ih (s + 1) (by omega) (by omega) W2 hO2 (hL2.put (hP2.low hsn b2 hlow) hB2) _ (by omega)
      · rw [jset_same]
        exact Part.nil (fun q hq2 => by
          have := (sub_xor n q s hsn hq2.1.1.1).1
          have := hq2.2
          omega)

theorem c_leastTrips {M Y : jM} {Q : Int → jM → Prop} {L : List Int} {arms : Int} (hC : CR M) (har : 1 ≤ arms ∧ arms ≤ 99) (hG : Gath M Y L) (hl : L.length ≤ 8) (hok : ∀ p ∈ L, (0 ≤ p ∧ p < M 929 709) ∧ M 929 (950 + p) ≠ -1) (h : ∀ (Z : jM) (v : Int), Scr M Z → Lst (tripT (M 929) arms) L (-1) v → Q v Z) : jCt yX4_leastTrips cX4_leastTrips 7 (some .int) 2 [jR 903, jI arms] Y Q := by
  refine jCt_of mt_yX4_leastTrips (Nat.le_of_ble_eq_true rfl) (fun X => ?_)
  have hn0 := hG.2.1
  have hrng : ∀ i : Nat, i < L.length → (1 ≤ Y 904 i ∧ Y 904 i ≤ 9) ∧ 0 ≤ Y 905 i ∧ Y 905 i ≤ 99 := fun i hi => by
    have e := hG.2.2 i hi
    have o2 := hok _ (getD_mem hi)
    have hpr := hC.plr o2.1.1 o2.1.2
    have hk := hC.kind hpr.1.1 hpr.1.2
    have hr := hC.rk (r := M 929 (950 + L.getD i 0)) (by omega) (by omega)
    rw [e.1, e.2]
    unfold sizeOfP stepsOf
    omega
  have hit : ∀ i : Int, 0 ≤ i → i < L.length → (0 ≤ Y 904 i ∧ Y 904 i ≤ 200000000) ∧ 0 ≤ Y 905 i ∧ Y 905 i ≤ 200000000 := fun i a b => by
    have q := hrng i.toNat (by omega)
    rw [show ((i.toNat : Nat) : Int) = i by omega] at q
    omega
  have hsh : jshl 1 (Y 903 0) = ((2 ^ L.length : Nat) : Int) := by
    have e := jshl1 ⟨L.length, by omega⟩
    rw [hn0]
    exact e
  have hp8 : 2 ^ L.length ≤ 256 := Nat.pow_le_pow_right (by decide) hl
  have hp1 : 0 < 2 ^ L.length := Nat.pos_of_ne_zero (by simp)
  refine e_iconst 1 dX4_leastTrips_0 rfl ?_
  refine e_aload_n (i := 0) 2 dX4_leastTrips_1 rfl rfl rfl ?_
  refine e_geti (j := 0) 5 fl_4_55 dX4_leastTrips_2 at_903 (by decide) rfl rfl (fun r2 => ?_)
  refine e_ishl 6 dX4_leastTrips_5 rfl ?_
  rw [hsh]
  refine e_iconst 7 dX4_leastTrips_6 rfl ?_
  refine e_isub 8 dX4_leastTrips_7 rfl ?_
  refine e_istore_n (i := 2) (lsn := [(2, _), (0, _), (1, _)]) 9 dX4_leastTrips_8 rfl (by decide) rfl rfl ?_
  refine e_aload_n (i := 0) 10 dX4_leastTrips_9 rfl rfl rfl ?_
  refine e_aload_n (i := 0) 11 dX4_leastTrips_10 rfl rfl rfl ?_
  refine e_geti (j := 0) 14 fl_4_55 dX4_leastTrips_11 at_903 (by decide) rfl rfl (fun r11 => ?_)
  refine e_callV 17 mt_yX4_sumSets mv_yX4_sumSets wd_993 (by decide) dX4_leastTrips_14 at_903 jc_4 rfl rfl rfl (Nat.le_of_ble_eq_true rfl) (jroom (by decide)) rfl (c_sumSets (n := L.length) hG.2.1 hl hit (fun Z14 hO14 hS14 => ?_))
  dsimp only [jpush]
  have hI : Items (M 929) (fun j => L.getD j 0) L.length Z14 := fun S hS => by
    have q := hS14 S hS
    have e1 := sumL_sel (F := sizeOfP (M 929)) (f := Y 904) (g := fun j => L.getD j 0) (S := S) L.length (fun j hj => (hG.2.2 j hj).1)
    have e2 := maxL_sel (F := stepsOf (M 929)) (f := Y 905) (g := fun j => L.getD j 0) (S := S) L.length (fun j hj => (hG.2.2 j hj).2)
    have b1 := sumS_rng (f := Y 904) L.length S (fun i a b => (hit i a b).1)
    have b2 := mostS_rng (f := Y 905) L.length S (fun i a b => (hit i a b).2)
    have b3 := mostS_99 (f := Y 905) L.length S (fun i a b => by
      have q := hrng i.toNat (by omega)
      rw [show ((i.toNat : Nat) : Int) = i by omega] at q
      omega)
    rw [e1, e2, q.1, q.2.2.2]
    exact ⟨rfl, rfl, by omega, by omega⟩
  have hSZ : Scr M Z14 := fun k j u v => by
    rw [hO14 k (by omega)]
    exact hG.1 k j u v
  refine e_aload_n (i := 0) 18 dX4_leastTrips_17 rfl rfl rfl ?_
  refine e_getr (j := 8) 21 fl_4_34 dX4_leastTrips_18 at_903 rfl rfl tp_903_8 rfl ?_
  refine e_iconst 22 dX4_leastTrips_21 rfl ?_
  refine e_iconst 23 dX4_leastTrips_22 rfl ?_
  refine e_iast 24 dX4_leastTrips_23 ar_911 (by decide) (by decide) (by decide) rfl ?_
  refine e_iconst 25 dX4_leastTrips_24 rfl ?_
  refine e_istore_n (i := 3) (lsn := [(3, _), (2, _), (0, _), (1, _)]) 26 dX4_leastTrips_25 rfl (by decide) rfl rfl ?_
  refine e_ls (ls2 := [(0, _), (1, _), (2, _), (3, _)]) rfl ?_
  refine l_tl (a := M 929) (g := fun j => L.getD j 0) har hl hI rfl (fun W hOW hLW => ?_) (2 ^ L.length - 1) 1 (by omega) (by omega) _ (Oth1.set (fun _ _ => rfl)) (fun S hS => ?_) _ rfl
  · have hlast := hLW (2 ^ L.length - 1) (by omega)
    have efull : selF (2 ^ L.length - 1) (fun j => L.getD j 0) L.length 0 = L := by
      rw [sel_full L.length (Nat.le_refl _) _ (fun j hj => by rw [Nat.testBit_two_pow_sub_one]; exact decide_eq_true hj), List.take_length]
    rw [efull, show ((2 ^ L.length - 1 : Nat) : Int) = ((2 ^ L.length : Nat) : Int) - 1 by omega] at hlast
    have hSW : Scr M W := fun k j u v => by
      rw [hOW k (by omega)]
      exact hSZ k j u v
    refine e_aload_n (i := 0) 135 dX4_leastTrips_134 rfl rfl rfl ?_
    refine e_getr (j := 8) 138 fl_4_34 dX4_leastTrips_135 at_903 rfl rfl tp_903_8 rfl ?_
    refine e_iload_n (i := 2) 139 dX4_leastTrips_138 rfl rfl rfl ?_
    refine e_iald 140 dX4_leastTrips_139 ar_911 (by omega) (by omega) rfl (fun r139 => ?_)
    refine e_ldc (z := (1073741824)) 142 (ix := 141) wd_1047 (by decide) dX4_leastTrips_140 rfl ?_
    refine e_icmp_ne 145 149 dX4_leastTrips_142 (by omega) (by decide) (by decide) rfl (fun b142 => ?_) (fun b142 => ?_)
    · skip
      refine e_aload_n (i := 0) 150 dX4_leastTrips_149 rfl rfl rfl ?_
      refine e_getr (j := 8) 153 fl_4_34 dX4_leastTrips_150 at_903 rfl rfl tp_903_8 rfl ?_
      refine e_iload_n (i := 2) 154 dX4_leastTrips_153 rfl rfl rfl ?_
      refine e_iald 155 dX4_leastTrips_154 ar_911 (by omega) (by omega) rfl (fun r154 => ?_)
      refine e_iret dX4_leastTrips_155 ?_
      first | exact h W _ hSW (hlast.1.no (fun _ => rfl) (fun e => by omega)) | exact h W _ hSW (hlast.1.no (fun e => by omega) (fun e => ⟨rfl, by omega⟩))
    · skip
      refine e_iconst 146 dX4_leastTrips_145 rfl ?_
      refine e_goto 155 dX4_leastTrips_146 (by decide) ?_
      refine e_iret dX4_leastTrips_155 ?_
      first | exact h W _ hSW (hlast.1.no (fun _ => rfl) (fun e => by omega)) | exact h W _ hSW (hlast.1.no (fun e => by omega) (fun e => ⟨rfl, by omega⟩))
  · have e : S = 0 := by omega
    subst e
    rw [sel_0]
    have e2 : jset Z14 911 0 0 911 ((0 : Nat) : Int) = 0 := jset_same
    rw [e2]
    exact ⟨lst_nil (by decide), Or.inr (by omega)⟩

