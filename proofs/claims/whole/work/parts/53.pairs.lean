/-! SCRATCH; PAIRS: rush -/
/-- only what no later call shows has changed -/
def Scr (M M2 : jM) : Prop := ∀ k j, k < 903 ∨ (928 ≤ k ∧ k < 932) ∨ 946 ≤ k → (k = 928 → j = 0 ∨ j = 5 ∨ j = 16 ∨ j = 17) → M2 k j = M k j
theorem Scr.rf {M : jM} : Scr M M := fun _ _ _ _ => rfl
theorem Scr.set {M M2 : jM} (h : Scr M M2) {q i v : Int} (e : (903 ≤ q ∧ q < 928) ∨ (932 ≤ q ∧ q < 946)) : Scr M (jset M2 q i v) := fun k j a b => by
  rw [jset_k (by omega)]
  exact h k j a b
theorem Scr.row {M M2 : jM} (h : Scr M M2) : M2 929 = M 929 := funext fun j => h 929 j (by omega) (by omega)
theorem Scr.cr {M M2 : jM} (h : Scr M M2) (hC : CR M) : CR M2 := by
  have e := h.row
  refine ⟨by rw [e]; exact hC.1, ?_⟩
  rw [e]
  exact hC.2.fr hC.1 (fun k j u v => h (1 + k) j (by omega) (by omega)) (fun i _ _ => rfl)
theorem Inv.scr {M M2 : jM} (h : Inv M) (o : Scr M M2) : Inv M2 := by
  obtain ⟨h1, h2, h3, h4, h5, h6, h7⟩ := h
  have e9 : M2 929 = M 929 := o.row
  have hC := o.cr ⟨h2, h3⟩
  refine ⟨by rw [o _ _ (by omega) (by omega)]; exact h1, hC.1, hC.2, ?_, ?_, ?_, ?_⟩
  · unfold ITape at h4 ⊢
    have q1 := fun j => o 883 j (by omega) (by omega)
    have q2 := fun j => o 931 j (by omega) (by omega)
    have q3 := fun j => o 884 j (by omega) (by omega)
    simp only [q1, o 928 5 (by omega) (by omega), q2, q3]
    exact h4
  · unfold IFault at h5 ⊢
    have q1 := fun j => o 882 j (by omega) (by omega)
    simp only [q1, o 928 16 (by omega) (by omega), o 928 17 (by omega) (by omega), o 891 0 (by omega) (by omega)]
    exact h5
  · intro r r0 r1
    have h8 := h6 r r0 r1
    have a1 := o (895 + 2 * r) 0 (by omega) (by omega)
    have a2 := o 946 r (by omega) (by omega)
    have a3 := o 947 r (by omega) (by omega)
    have a4 := o (895 + 2 * r) 1 (by omega) (by omega)
    rw [a1, a2, a3, a4]
    refine h8.imp id (fun h => ⟨h.1, h.2.1, h.2.2.1, h.2.2.2.1, fun i i0 i1 => ?_⟩)
    rw [o (896 + 2 * r) i (by omega) (by omega), o 948 _ (by omega) (by omega)]
    exact h.2.2.2.2 i i0 i1
  · intro q q0 q1
    have h8 := h7 q q0 q1
    rw [o 881 q (by omega) (by omega), o 930 q (by omega) (by omega)]
    refine ⟨h8.1, h8.2.1, fun h9 => ?_⟩
    have h10 := h8.2.2 h9
    have ea : av M2 (3920 * (q + 1)) = av M (3920 * (q + 1)) := by
      unfold av
      rw [e9]
    rw [ea]
    exact ⟨h10.1, h10.2.fr h10.1 (fun k j u v => o _ j (by omega) (by omega)) (fun i _ _ => rfl)⟩
theorem jand_1 (x : Int) : jand x 1 = 0 ∨ jand x 1 = 1 := by
  have e : ∀ b : BitVec 32, b &&& 1#32 = 0#32 ∨ b &&& 1#32 = 1#32 := by
    intro b
    by_cases q : b.getLsbD 0
    · right
      apply BitVec.eq_of_getLsbD_eq
      intro i hi
      rw [BitVec.getLsbD_and]
      by_cases q2 : i = 0
      · subst q2
        rw [q]
        decide
      · simp [BitVec.getLsbD_one, q2]
    · left
      apply BitVec.eq_of_getLsbD_eq
      intro i hi
      rw [BitVec.getLsbD_and]
      by_cases q2 : i = 0
      · subst q2
        rw [show b.getLsbD 0 = false by cases hx : b.getLsbD 0 with | true => exact absurd hx q | false => rfl]
        decide
      · simp [BitVec.getLsbD_one, q2]
  have f : (Int32.ofInt x &&& Int32.ofInt 1).toBitVec = (Int32.ofInt x).toBitVec &&& 1#32 := by
    rw [Int32.toBitVec_and]
    rfl
  unfold jand
  rcases e (Int32.ofInt x).toBitVec with h | h
  · left
    have : Int32.ofInt x &&& Int32.ofInt 1 = Int32.ofInt 0 := by
      apply Int32.toBitVec_inj.mp
      rw [f, h]
      rfl
    rw [this]
    decide +kernel
  · right
    have : Int32.ofInt x &&& Int32.ofInt 1 = Int32.ofInt 1 := by
      apply Int32.toBitVec_inj.mp
      rw [f, h]
      rfl
    rw [this]
    decide +kernel
/-- the pledges that bits tell, from one on -/
def pickL (bits fr : Int) : Nat → List Int
  | 0 => []
  | n + 1 => if jand (jshr bits n) 1 = 1 then pickL bits fr n ++ [fr + n] else pickL bits fr n
theorem pickL_len (bits fr : Int) : ∀ n : Nat, (pickL bits fr n).length ≤ n
  | 0 => Nat.le_refl 0
  | n + 1 => by
    have ih := pickL_len bits fr n
    unfold pickL
    split
    · rw [List.length_append]
      show _ + 1 ≤ _
      omega
    · omega
abbrev pickOk (a : Int → Int) (bits fr : Int) (n : Nat) : Prop := ∀ p, p ∈ pickL bits fr n → (0 ≤ p ∧ p < a 709) ∧ a (950 + p) ≠ -1
theorem pickOk_le {a : Int → Int} {bits fr : Int} : ∀ {n m : Nat}, n ≤ m → pickOk a bits fr m → pickOk a bits fr n
  | n, 0, h, h2 => by
    have e : n = 0 := by omega
    subst e
    exact h2
  | n, m + 1, h, h2 => by
    by_cases e : n = m + 1
    · subst e
      exact h2
    · refine pickOk_le (m := m) (by omega) (fun p hp => h2 p ?_)
      unfold pickL
      split
      · exact List.mem_append_left _ hp
      · exact hp
def sumTo (f : Nat → Int) : Nat → Int
  | 0 => 0
  | n + 1 => sumTo f n + f n
theorem sumTo_cong {f g : Nat → Int} : ∀ n : Nat, (∀ i, i < n → f i = g i) → sumTo f n = sumTo g n
  | 0, _ => rfl
  | n + 1, h => by
    rw [sumTo, sumTo, sumTo_cong n (fun i hi => h i (by omega)), h n (by omega)]
theorem getD_app {l : List Int} {x : Int} {i : Nat} (h : i < l.length) : (l ++ [x]).getD i 0 = l.getD i 0 := by
  simp [List.getD, List.getElem?_append_left h]
theorem getD_app_len {l : List Int} {x : Int} : (l ++ [x]).getD l.length 0 = x := by
  simp [List.getD]
theorem getD_mem {l : List Int} {i : Nat} (h : i < l.length) : l.getD i 0 ∈ l := by
  simp [List.getD, List.getElem?_eq_getElem h]
def stepsOf (a : Int → Int) (p : Int) : Int := a (1772 + a (950 + p))
def sizeOfP (a : Int → Int) (p : Int) : Int := a (583 + a (710 + p))
def rRush (a : Int → Int) (bits fr : Int) : Nat → Int
  | 0 => 0
  | n + 1 => if jand (jshr bits n) 1 = 1 then rRush a bits fr n + 2 * stepsOf a (fr + n) else rRush a bits fr n
theorem rRush_sum (a : Int → Int) (bits fr : Int) : ∀ n : Nat, sumTo (fun i => 2 * stepsOf a ((pickL bits fr n).getD i 0)) (pickL bits fr n).length = rRush a bits fr n
  | 0 => rfl
  | n + 1 => by
    have ih := rRush_sum a bits fr n
    unfold pickL rRush
    split
    · rw [List.length_append]
      show sumTo _ (_ + 1) = _
      rw [sumTo, getD_app_len, ← ih]
      congr 1
      exact sumTo_cong _ (fun i hi => by rw [getD_app hi])
    · exact ih
theorem c_add {s v : Int} {M : jM} {Q : Int → jM → Prop} (hs : -2147483648 ≤ s ∧ s ≤ 2147483647) (hv : -2147483648 ≤ v ∧ v ≤ 2147483647) (hg : 0 ≤ M 903 0 ∧ M 903 0 < 10) (h : Q 0 (jset (jset (jset M 904 (M 903 0) s) 905 (M 903 0) v) 903 0 (M 903 0 + 1))) : jCt yX4_add cX4_add 3 none 1 [jR 903, jI s, jI v] M Q := by
  refine jCt_of mt_yX4_add (Nat.le_of_ble_eq_true rfl) (fun X => ?_)
  refine e_aload_n (i := 0) 1 dX4_add_0 rfl rfl rfl ?_
  refine e_geti (j := 0) 4 fl_4_55 dX4_add_1 at_903 (by decide) rfl rfl (fun r1 => ?_)
  refine e_bipush 6 dX4_add_4 (by decide) rfl ?_
  refine e_icmp_ge 9 39 dX4_add_6 (by omega) (by decide) (by decide) rfl (fun b6 => ?_) (fun b6 => ?_)
  · skip
    refine e_vret dX4_add_39 ?_
    first | (exfalso; omega) | exact h
  · skip
    refine e_aload_n (i := 0) 10 dX4_add_9 rfl rfl rfl ?_
    refine e_getr (j := 1) 13 fl_4_11 dX4_add_10 at_903 rfl rfl tp_903_1 rfl ?_
    refine e_aload_n (i := 0) 14 dX4_add_13 rfl rfl rfl ?_
    refine e_geti (j := 0) 17 fl_4_55 dX4_add_14 at_903 (by decide) rfl rfl (fun r14 => ?_)
    refine e_iload_n (i := 1) 18 dX4_add_17 rfl rfl rfl ?_
    refine e_iast 19 dX4_add_18 ar_904 (by omega) (by omega) (by omega) rfl ?_
    refine e_aload_n (i := 0) 20 dX4_add_19 rfl rfl rfl ?_
    refine e_getr (j := 2) 23 fl_4_15 dX4_add_20 at_903 rfl rfl tp_903_2 rfl ?_
    refine e_aload_n (i := 0) 24 dX4_add_23 rfl rfl rfl ?_
    refine e_geti (j := 0) 27 fl_4_55 dX4_add_24 at_903 (by decide) rfl rfl (fun r24 => ?_)
    simp (disch := omega) only [jset_k, jset_j, jset_same, true_and, and_true] at r24 ⊢
    refine e_iload_n (i := 2) 28 dX4_add_27 rfl rfl rfl ?_
    refine e_iast 29 dX4_add_28 ar_905 (by omega) (by omega) (by omega) rfl ?_
    refine e_aload_n (i := 0) 30 dX4_add_29 rfl rfl rfl ?_
    refine e_dup 31 dX4_add_30 rfl rfl ?_
    refine e_geti (j := 0) 34 fl_4_55 dX4_add_31 at_903 (by decide) rfl rfl (fun r31 => ?_)
    simp (disch := omega) only [jset_k, jset_j, jset_same, true_and, and_true] at r31 ⊢
    refine e_iconst 35 dX4_add_34 rfl ?_
    refine e_iadd 36 dX4_add_35 rfl ?_
    refine e_puti (j := 0) 39 fl_4_55 dX4_add_36 at_903 rfl rfl rfl (by omega) rfl ?_
    refine e_vret dX4_add_39 ?_
    first | (exfalso; omega) | exact h

/-- what was gathered, by the pledges that bits tell -/
def Gath (M Y : jM) (L : List Int) : Prop := Scr M Y ∧ Y 903 0 = L.length ∧ ∀ i : Nat, i < L.length → Y 904 i = sizeOfP (M 929) (L.getD i 0) ∧ Y 905 i = stepsOf (M 929) (L.getD i 0)
theorem Gath.add {M Y : jM} {L : List Int} (h : Gath M Y L) {p s v : Int} (hs : s = sizeOfP (M 929) p) (hv : v = stepsOf (M 929) p) : Gath M (jset (jset (jset Y 904 (Y 903 0) s) 905 (Y 903 0) v) 903 0 (Y 903 0 + 1)) (L ++ [p]) := by
  obtain ⟨h1, h2, h3⟩ := h
  refine ⟨((h1.set (by omega)).set (by omega)).set (by omega), ?_, fun i hi => ?_⟩
  · rw [jset_same, h2, List.length_append]
    show _ = ((L.length + 1 : Nat) : Int)
    omega
  · rw [List.length_append] at hi
    change i < L.length + 1 at hi
    by_cases e : i = L.length
    · subst e
      rw [getD_app_len, h2]
      simp (disch := omega) only [jset_k, jset_j, jset_same]
      exact ⟨hs, hv⟩
    · rw [getD_app (by omega)]
      simp (disch := omega) only [jset_k, jset_j, jset_same]
      exact h3 i (by omega)
theorem l_gather {X : jX} {bits fr : Int} {M : jM} {Q : Int → jM → Prop} (hC : CR M) (hf : -2147483648 ≤ fr ∧ fr ≤ 2147483647) (hb : 0 ≤ bits ∧ bits ≤ 255) (h0 : ¬ pickOk (M 929) bits fr 8 → ∀ Y : jM, Scr M Y → Q 0 Y) (h1 : pickOk (M 929) bits fr 8 → ∀ Y : jM, Gath M Y (pickL bits fr 8) → Q 1 Y) : ∀ (n i : Nat), i + n = 8 → ∀ (Y : jM) (ii : Int), ii = i → pickOk (M 929) bits fr i → Gath M Y (pickL bits fr i) → jE X yX4_gather cX4_gather 7 (some .boolean) 2 Q Y 8 [(0, jR 903), (1, jR 1), (2, jI fr), (3, jI bits), (4, jI ii)] [] := by
  intro n
  induction n with
  | zero =>
    intro i hi Y ii hii hok hG
    have e8 : i = 8 := by omega
    subst e8
    refine e_iload 10 dX4_gather_8 rfl rfl ?_
    refine e_bipush 12 dX4_gather_10 (by decide) rfl ?_
    refine e_icmp_ge 15 100 dX4_gather_12 (by omega) (by decide) (by decide) rfl (fun b12 => ?_) (fun b12 => ?_)
    · skip
      refine e_iconst 101 dX4_gather_100 rfl ?_
      refine e_zret dX4_gather_101 (by decide) ?_
      exact h1 hok Y hG
    · omega
  | succ n ih =>
    intro i hi Y ii hii hok hG
    have hj1 := jand_1 (jshr bits i)
    have hCY := hG.1.cr hC
    have hn := hCY.cnt
    have hg := hCY.rng
    have e9 := hG.1.row
    have hl := pickL_len bits fr i
    rw [hii]
    refine e_iload 10 dX4_gather_8 rfl rfl ?_
    refine e_bipush 12 dX4_gather_10 (by decide) rfl ?_
    refine e_icmp_ge 15 100 dX4_gather_12 (by omega) (by decide) (by decide) rfl (fun b12 => ?_) (fun b12 => ?_)
    · omega
    · skip
      refine e_iload_n (i := 3) 16 dX4_gather_15 rfl rfl rfl ?_
      refine e_iload 18 dX4_gather_16 rfl rfl ?_
      refine e_ishr 19 dX4_gather_18 rfl ?_
      refine e_iconst 20 dX4_gather_19 rfl ?_
      refine e_iand 21 dX4_gather_20 rfl ?_
      refine e_iconst 22 dX4_gather_21 rfl ?_
      refine e_icmp_ne 25 94 dX4_gather_22 (by omega) (by decide) (by decide) rfl (fun b22 => ?_) (fun b22 => ?_)
      · skip
        refine e_iinc (lsn := [(4, _), (0, _), (1, _), (2, _), (3, _)]) 97 dX4_gather_94 rfl (by decide) rfl rfl ?_
        refine e_goto 8 dX4_gather_97 (by decide) ?_
        refine e_ls (ls2 := [(0, _), (1, _), (2, _), (3, _), (4, _)]) rfl ?_
        refine ih (i + 1) (by omega) _ _ (by omega) ?_ ?_
        · rw [pickOk, pickL, if_neg (by omega)]
          exact hok
        · rw [pickL, if_neg (by omega)]
          exact hG
      · skip
        have hon : pickL bits fr (i + 1) = pickL bits fr i ++ [fr + i] := by rw [pickL, if_pos (by omega)]
        have hw := w32_in (fr + i)
        have hw2 : 0 ≤ w32 (fr + i) → w32 (fr + i) = fr + i := fun _ => by unfold w32 at *; omega
        have hw4 : 0 ≤ fr + (i : Int) → fr + (i : Int) ≤ 2147483647 → w32 (fr + i) = fr + i := fun a b => w32_id (by omega)
        refine e_iload_n (i := 2) 26 dX4_gather_25 rfl rfl rfl ?_
        refine e_iload 28 dX4_gather_26 rfl rfl ?_
        refine e_iadd 29 dX4_gather_28 rfl ?_
        refine e_w32 ?_
        refine e_istore (lsn := [(5, _), (0, _), (1, _), (2, _), (3, _), (4, _)]) 31 dX4_gather_29 (by decide) rfl rfl ?_
        refine e_aload_n (i := 1) 32 dX4_gather_31 rfl rfl rfl ?_
        refine e_iload 34 dX4_gather_32 rfl rfl ?_
        refine e_callV 37 mt_yX8_hasPledge mv_yX8_hasPledge wd_962 (by decide) dX4_gather_34 at_1 jc_8 rfl rfl rfl (Nat.le_of_ble_eq_true rfl) (jroom (by decide)) rfl (c_hasPledge (by omega) (fun w34 => ?_) (fun w34 => ?_))
        · dsimp only [jpush]
          refine e_if_ne 40 42 dX4_gather_37 (by decide) (by decide) rfl (fun _ => ?_) (fun h => absurd h (by decide))
          have hw3 := hw2 (by omega)
          rw [hw3] at w34 ⊢
          have hp := hCY.pl (p := fr + i) (by omega) (by omega)
          have hpr := hCY.plr (p := fr + i) (by omega) (by omega)
          refine e_aload_n (i := 1) 43 dX4_gather_42 rfl rfl rfl ?_
          refine e_getr (j := 9) 46 fl_4_65 dX4_gather_43 at_1 rfl rfl tp_1_9 rfl ?_
          refine e_iload 48 dX4_gather_46 rfl rfl ?_
          refine e_aald 49 dX4_gather_48 ar_18 (by decide) (by omega) (by omega) (tp_pledge (by omega) (by omega)) rfl ?_
          refine e_astore (lsn := [(6, _), (5, _), (0, _), (1, _), (2, _), (3, _), (4, _)]) 51 dX4_gather_49 (by decide) rfl rfl ?_
          refine e_aload_n (i := 1) 52 dX4_gather_51 rfl rfl rfl ?_
          refine e_aload 54 dX4_gather_52 rfl rfl ?_
          refine e_geti (j := 5) 57 fl_4_69 dX4_gather_54 (at_pledge (by omega) (by omega)) (by decide) rfl rfl (fun r54 => ?_)
          refine e_callV 60 mt_yX8_hasRack mv_yX8_hasRack wd_963 (by decide) dX4_gather_57 at_1 jc_8 rfl rfl rfl (Nat.le_of_ble_eq_true rfl) (jroom (by decide)) rfl (c_hasRack (by omega) (fun w57 => ?_) (fun w57 => ?_))
          · dsimp only [jpush]
            refine e_if_ne 63 65 dX4_gather_60 (by decide) (by decide) rfl (fun _ => ?_) (fun h => absurd h (by decide))
            have hk := hCY.kind hpr.1.1 hpr.1.2
            have hr := hCY.rk (r := Y 929 (950 + (fr + i))) (by omega) (by omega)
            have e0 : Y (56 + Y (84 + (fr + i)) 0) 0 = Y 929 (583 + Y 929 (710 + (fr + i))) := by rw [hp.1.1]; exact hk.1.1
            have e1 : Y (21 + Y (84 + (fr + i)) 5) 1 = Y 929 (1772 + Y 929 (950 + (fr + i))) := by rw [hp.1.2.2.2.2.2.1]; exact hr.1.2
            have hG2 := hG.2.1
            refine e_aload_n (i := 0) 66 dX4_gather_65 rfl rfl rfl ?_
            refine e_aload_n (i := 1) 67 dX4_gather_66 rfl rfl rfl ?_
            refine e_getr (j := 5) 70 fl_4_77 dX4_gather_67 at_1 rfl rfl tp_1_5 rfl ?_
            refine e_aload 72 dX4_gather_70 rfl rfl ?_
            refine e_geti (j := 0) 75 fl_4_81 dX4_gather_72 (at_pledge (by omega) (by omega)) (by decide) rfl rfl (fun r72 => ?_)
            refine e_aald 76 dX4_gather_75 ar_16 (by decide) (by omega) (by omega) (tp_kind (by omega) (by omega)) rfl ?_
            refine e_geti (j := 0) 79 fl_4_84 dX4_gather_76 (at_kind (by omega) (by omega)) (by decide) rfl rfl (fun r76 => ?_)
            refine e_aload_n (i := 1) 80 dX4_gather_79 rfl rfl rfl ?_
            refine e_getr (j := 13) 83 fl_4_89 dX4_gather_80 at_1 rfl rfl tp_1_13 rfl ?_
            refine e_aload 85 dX4_gather_83 rfl rfl ?_
            refine e_geti (j := 5) 88 fl_4_69 dX4_gather_85 (at_pledge (by omega) (by omega)) (by decide) rfl rfl (fun r85 => ?_)
            refine e_aaldi 89 dX4_gather_88 ar_20 (by omega) (by omega) (tp_rackrow (by omega) (by omega)) rfl ?_
            refine e_iconst 90 dX4_gather_89 rfl ?_
            refine e_iald 91 dX4_gather_90 (ar_rackrow (by omega) (by omega)) (by decide) (by decide) rfl (fun r90 => ?_)
            refine e_callV 94 mt_yX4_add mv_yX4_add wd_964 (by decide) dX4_gather_91 at_903 jc_4 rfl rfl rfl (Nat.le_of_ble_eq_true rfl) (jroom (by decide)) rfl (c_add (by omega) (by omega) (by omega) ?_)
            dsimp only [jpush]
            refine e_iinc (lsn := [(4, _), (6, _), (5, _), (0, _), (1, _), (2, _), (3, _)]) 97 dX4_gather_94 rfl (by decide) rfl rfl ?_
            refine e_goto 8 dX4_gather_97 (by decide) ?_
            refine e_ls (ls2 := [(0, _), (1, _), (2, _), (3, _), (4, _)]) rfl ?_
            refine ih (i + 1) (by omega) _ _ (by omega) ?_ ?_
            · rw [pickOk, hon]
              intro p hp2
              rcases List.mem_append.mp hp2 with q | q
              · exact hok p q
              · rw [List.mem_singleton.mp q, ← e9]
                omega
            · rw [hon]
              refine hG.add ?_ ?_
              · rw [e0, e9]
                rfl
              · rw [e1, e9]
                rfl
          · dsimp only [jpush]
            refine e_if_ne 63 65 dX4_gather_60 (by decide) (by decide) rfl (fun h => absurd h (by decide)) (fun _ => ?_)
            refine e_iconst 64 dX4_gather_63 rfl ?_
            refine e_zret dX4_gather_64 (by decide) ?_
            first
              | (exfalso; omega)
              | (refine h0 (fun q => ?_) Y hG.1
                 have q2 := pickOk_le (show i + 1 ≤ 8 by omega) q (fr + i) (by rw [hon]; exact List.mem_append_right _ (List.mem_singleton.mpr rfl))
                 rw [← e9] at q2
                 omega)
        · dsimp only [jpush]
          refine e_if_ne 40 42 dX4_gather_37 (by decide) (by decide) rfl (fun h => absurd h (by decide)) (fun _ => ?_)
          refine e_iconst 41 dX4_gather_40 rfl ?_
          refine e_zret dX4_gather_41 (by decide) ?_
          first
            | (exfalso; omega)
            | (refine h0 (fun q => ?_) Y hG.1
               have q2 := pickOk_le (show i + 1 ≤ 8 by omega) q (fr + i) (by rw [hon]; exact List.mem_append_right _ (List.mem_singleton.mpr rfl))
               rw [← e9] at q2
               omega)

theorem c_gather {bits fr : Int} {M : jM} {Q : Int → jM → Prop} (hC : CR M) (hf : -2147483648 ≤ fr ∧ fr ≤ 2147483647) (hb : 0 ≤ bits ∧ bits ≤ 255) (h0 : ¬ pickOk (M 929) bits fr 8 → ∀ Y : jM, Scr M Y → Q 0 Y) (h1 : pickOk (M 929) bits fr 8 → ∀ Y : jM, Gath M Y (pickL bits fr 8) → Q 1 Y) : jCt yX4_gather cX4_gather 7 (some .boolean) 2 [jR 903, jR 1, jI fr, jI bits] M Q := by
  refine jCt_of mt_yX4_gather (Nat.le_of_ble_eq_true rfl) (fun X => ?_)
  refine e_aload_n (i := 0) 1 dX4_gather_0 rfl rfl rfl ?_
  refine e_iconst 2 dX4_gather_1 rfl ?_
  refine e_puti (j := 0) 5 fl_4_55 dX4_gather_2 at_903 rfl rfl rfl (by decide) rfl ?_
  refine e_iconst 6 dX4_gather_5 rfl ?_
  refine e_istore (lsn := [(4, _), (0, _), (1, _), (2, _), (3, _)]) 8 dX4_gather_6 (by decide) rfl rfl ?_
  refine e_ls (ls2 := [(0, _), (1, _), (2, _), (3, _), (4, _)]) rfl ?_
  refine l_gather hC hf hb h0 h1 8 0 rfl _ _ rfl (fun p hp => absurd hp List.not_mem_nil) ⟨Scr.rf.set (by omega), jset_same, fun i hi => absurd hi (Nat.not_lt_zero i)⟩

theorem l_stepsT {X : jX} {M : jM} {Q : Int → jM → Prop} (hg : 0 ≤ M 903 0 ∧ M 903 0 ≤ 10) (h : Q (sumTo (fun i => 2 * M 905 i) (M 903 0).toNat) M) : ∀ (n i : Nat), (i : Int) + n = M 903 0 → ∀ s ii : Int, ii = i → s = sumTo (fun i => 2 * M 905 i) i → jE X yX4_stepsTogether cX4_stepsTogether 3 (some .int) 1 Q M 4 [(0, jR 903), (1, jI s), (2, jI ii)] [] := by
  intro n
  induction n with
  | zero =>
    intro i hi s ii hii hs
    have e : (M 903 0).toNat = i := by omega
    rw [e, ← hs] at h
    refine e_iload_n (i := 2) 5 dX4_stepsTogether_4 rfl rfl rfl ?_
    refine e_aload_n (i := 0) 6 dX4_stepsTogether_5 rfl rfl rfl ?_
    refine e_geti (j := 0) 9 fl_4_55 dX4_stepsTogether_6 at_903 (by decide) rfl rfl (fun r6 => ?_)
    refine e_icmp_ge 12 29 dX4_stepsTogether_9 (by omega) (by omega) (by decide) rfl (fun b9 => ?_) (fun b9 => ?_)
    · skip
      refine e_iload_n (i := 1) 30 dX4_stepsTogether_29 rfl rfl rfl ?_
      refine e_iret dX4_stepsTogether_30 ?_
      exact h
    · omega
  | succ n ih =>
    intro i hi s ii hii hs
    refine e_iload_n (i := 2) 5 dX4_stepsTogether_4 rfl rfl rfl ?_
    refine e_aload_n (i := 0) 6 dX4_stepsTogether_5 rfl rfl rfl ?_
    refine e_geti (j := 0) 9 fl_4_55 dX4_stepsTogether_6 at_903 (by decide) rfl rfl (fun r6 => ?_)
    refine e_icmp_ge 12 29 dX4_stepsTogether_9 (by omega) (by omega) (by decide) rfl (fun b9 => ?_) (fun b9 => ?_)
    · omega
    · skip
      refine e_iload_n (i := 1) 13 dX4_stepsTogether_12 rfl rfl rfl ?_
      refine e_iconst 14 dX4_stepsTogether_13 rfl ?_
      refine e_aload_n (i := 0) 15 dX4_stepsTogether_14 rfl rfl rfl ?_
      refine e_getr (j := 2) 18 fl_4_15 dX4_stepsTogether_15 at_903 rfl rfl tp_903_2 rfl ?_
      refine e_iload_n (i := 2) 19 dX4_stepsTogether_18 rfl rfl rfl ?_
      refine e_iald 20 dX4_stepsTogether_19 ar_905 (by omega) (by omega) rfl (fun r19 => ?_)
      refine e_imul 21 dX4_stepsTogether_20 rfl ?_
      refine e_iadd 22 dX4_stepsTogether_21 rfl ?_
      refine e_istore_n (i := 1) (lsn := [(1, _), (0, _), (2, _)]) 23 dX4_stepsTogether_22 rfl (by decide) rfl rfl ?_
      refine e_iinc (lsn := [(2, _), (1, _), (0, _)]) 26 dX4_stepsTogether_23 rfl (by decide) rfl rfl ?_
      refine e_goto 4 dX4_stepsTogether_26 (by decide) ?_
      refine e_ls (ls2 := [(0, _), (1, _), (2, _)]) rfl ?_
      exact ih (i + 1) (by omega) _ _ (by omega) (by rw [sumTo, ← hs, hii])

theorem c_stepsT {M : jM} {Q : Int → jM → Prop} (hg : 0 ≤ M 903 0 ∧ M 903 0 ≤ 10) (h : Q (sumTo (fun i => 2 * M 905 i) (M 903 0).toNat) M) : jCt yX4_stepsTogether cX4_stepsTogether 3 (some .int) 1 [jR 903] M Q := by
  refine jCt_of mt_yX4_stepsTogether (Nat.le_of_ble_eq_true rfl) (fun X => ?_)
  refine e_iconst 1 dX4_stepsTogether_0 rfl ?_
  refine e_istore_n (i := 1) (lsn := [(1, _), (0, _)]) 2 dX4_stepsTogether_1 rfl (by decide) rfl rfl ?_
  refine e_iconst 3 dX4_stepsTogether_2 rfl ?_
  refine e_istore_n (i := 2) (lsn := [(2, _), (1, _), (0, _)]) 4 dX4_stepsTogether_3 rfl (by decide) rfl rfl ?_
  refine e_ls (ls2 := [(0, _), (1, _), (2, _)]) rfl ?_
  exact l_stepsT hg h (M 903 0).toNat 0 (by omega) _ _ rfl rfl

theorem c_rush {fr bits : Int} {M : jM} {Q : Int → jM → Prop} (hC : CR M) (hf : -2147483648 ≤ fr ∧ fr ≤ 2147483647) (hbb : -2147483648 ≤ bits ∧ bits ≤ 2147483647) (h3 : bits < 0 ∨ 255 < bits → Q (-3) M) (h5 : (0 ≤ bits ∧ bits ≤ 255) ∧ ¬ pickOk (M 929) bits fr 8 → ∀ Y : jM, Scr M Y → Q (-5) Y) (h0 : (0 ≤ bits ∧ bits ≤ 255) ∧ pickOk (M 929) bits fr 8 → ∀ Y : jM, Scr M Y → Q (rRush (M 929) bits fr 8) Y) : jCt yX11_rush cX11_rush 3 (some .int) 3 [jR 0, jI fr, jI bits] M Q := by
  refine jCt_of mt_yX11_rush (Nat.le_of_ble_eq_true rfl) (fun X => ?_)
  refine e_iload_n (i := 2) 1 dX11_rush_0 rfl rfl rfl ?_
  refine e_iconst 2 dX11_rush_1 rfl ?_
  refine e_sipush 5 dX11_rush_2 (by decide) rfl ?_
  refine e_callS 8 mt_yX11_within ms_yX11_within wd_531 (by decide) dX11_rush_5 rfl rfl (Nat.le_of_ble_eq_true rfl) (jroom (by decide)) rfl (c_within (by omega) (by omega) (by omega) (fun w5 => ?_) (fun w5 => ?_))
  · dsimp only [jpush]
    refine e_if_ne 11 14 dX11_rush_8 (by decide) (by decide) rfl (fun _ => ?_) (fun h => absurd h (by decide))
    refine e_aload_n (i := 0) 15 dX11_rush_14 rfl rfl rfl ?_
    refine e_getr (j := 5) 18 fl_11_41 dX11_rush_15 at_0 rfl rfl tp_0_5 rfl ?_
    refine e_aload_n (i := 0) 19 dX11_rush_18 rfl rfl rfl ?_
    refine e_getr (j := 0) 22 fl_11_10 dX11_rush_19 at_0 rfl rfl tp_0_0 rfl ?_
    refine e_iload_n (i := 1) 23 dX11_rush_22 rfl rfl rfl ?_
    refine e_iload_n (i := 2) 24 dX11_rush_23 rfl rfl rfl ?_
    refine e_callV 27 mt_yX4_gather mv_yX4_gather wd_958 (by decide) dX11_rush_24 at_903 jc_4 rfl rfl rfl (Nat.le_of_ble_eq_true rfl) (jroom (by decide)) rfl (c_gather hC hf (by omega) (fun w24 Y24 hG24 => ?_) (fun w24 Y24 hG24 => ?_))
    · dsimp only [jpush]
      refine e_if_ne 30 33 dX11_rush_27 (by decide) (by decide) rfl (fun h => absurd h (by decide)) (fun _ => ?_)
      refine e_bipush 32 dX11_rush_30 (by decide) rfl ?_
      refine e_iret dX11_rush_32 ?_
      exact h5 ⟨by omega, w24⟩ Y24 hG24
    · dsimp only [jpush]
      refine e_if_ne 30 33 dX11_rush_27 (by decide) (by decide) rfl (fun _ => ?_) (fun h => absurd h (by decide))
      have hl := pickL_len bits fr 8
      have hl0 := hG24.2.1
      refine e_aload_n (i := 0) 34 dX11_rush_33 rfl rfl rfl ?_
      refine e_getr (j := 5) 37 fl_11_41 dX11_rush_34 at_0 rfl rfl tp_0_5 rfl ?_
      refine e_callV 40 mt_yX4_stepsTogether mv_yX4_stepsTogether wd_968 (by decide) dX11_rush_37 at_903 jc_4 rfl rfl rfl (Nat.le_of_ble_eq_true rfl) (jroom (by decide)) rfl (c_stepsT (by omega) ?_)
      dsimp only [jpush]
      refine e_iret dX11_rush_40 ?_
      have e := rRush_sum (M 929) bits fr 8
      have hl2 : (Y24 903 0).toNat = (pickL bits fr 8).length := by rw [hG24.2.1]; rfl
      rw [hl2, sumTo_cong _ (fun i hi => by rw [(hG24.2.2 i hi).2]), e]
      exact h0 ⟨by omega, w24⟩ Y24 hG24.1
  · dsimp only [jpush]
    refine e_if_ne 11 14 dX11_rush_8 (by decide) (by decide) rfl (fun h => absurd h (by decide)) (fun _ => ?_)
    refine e_bipush 13 dX11_rush_11 (by decide) rfl ?_
    refine e_iret dX11_rush_13 ?_
    exact h3 (by omega)

theorem lm_rush {X : jX} {fr bits : Int} {M : jM} {Q : Int → jM → Prop} (hC : CR M) (hf : -2147483648 ≤ fr ∧ fr ≤ 2147483647) (hb : 0 ≤ bits ∧ bits ≤ 255) (h5 : (0 ≤ bits ∧ bits ≤ 255) ∧ ¬ pickOk (M 929) bits fr 8 → Q (-5) M) (h0 : (0 ≤ bits ∧ bits ≤ 255) ∧ pickOk (M 929) bits fr 8 → Q (rRush (M 929) bits fr 8) M) : ∀ (n i : Nat), i + n = 8 → ∀ (s ii : Int), ii = i → pickOk (M 929) bits fr i → s = rRush (M 929) bits fr i → jE X yX12_rush cX12_rush 7 (some .int) 2 Q M 25 [(0, jR 928), (1, jI fr), (2, jI bits), (3, jI s), (4, jI ii)] [] := by
  intro n
  induction n with
  | zero =>
    intro i hi s ii hii hok hs
    have e8 : i = 8 := by omega
    subst e8
    have h := h0 ⟨hb, hok⟩
    rw [← hs] at h
    refine e_iload 27 dX12_rush_25 rfl rfl ?_
    refine e_bipush 29 dX12_rush_27 (by decide) rfl ?_
    refine e_icmp_ge 32 123 dX12_rush_29 (by omega) (by decide) (by decide) rfl (fun b29 => ?_) (fun b29 => ?_)
    · skip
      refine e_iload_n (i := 3) 124 dX12_rush_123 rfl rfl rfl ?_
      refine e_iret dX12_rush_124 ?_
      exact h
    · omega
  | succ n ih =>
    intro i hi s ii hii hok hs
    have hj1 := jand_1 (jshr bits i)
    have hn := hC.cnt
    have hg := hC.rng
    rw [hii]
    refine e_iload 27 dX12_rush_25 rfl rfl ?_
    refine e_bipush 29 dX12_rush_27 (by decide) rfl ?_
    refine e_icmp_ge 32 123 dX12_rush_29 (by omega) (by decide) (by decide) rfl (fun b29 => ?_) (fun b29 => ?_)
    · omega
    · skip
      refine e_iload_n (i := 2) 33 dX12_rush_32 rfl rfl rfl ?_
      refine e_iload 35 dX12_rush_33 rfl rfl ?_
      refine e_ishr 36 dX12_rush_35 rfl ?_
      refine e_iconst 37 dX12_rush_36 rfl ?_
      refine e_iand 38 dX12_rush_37 rfl ?_
      refine e_if_ne 41 44 dX12_rush_38 (by omega) (by decide) rfl (fun b38 => ?_) (fun b38 => ?_)
      · skip
        have hon : pickL bits fr (i + 1) = pickL bits fr i ++ [fr + i] := by rw [pickL, if_pos (by omega)]
        refine e_iload_n (i := 1) 45 dX12_rush_44 rfl rfl rfl ?_
        refine e_i2l 46 dX12_rush_45 (by omega) rfl ?_
        refine e_iload 48 dX12_rush_46 rfl rfl ?_
        refine e_i2l 49 dX12_rush_48 (by omega) rfl ?_
        refine e_ladd 50 dX12_rush_49 rfl ?_
        refine e_lstore (lsn := [(5, _), (0, _), (1, _), (2, _), (3, _), (4, _)]) 52 dX12_rush_50 (by decide) rfl rfl ?_
        refine e_lload 54 dX12_rush_52 rfl rfl ?_
        refine e_lconst0 55 dX12_rush_54 rfl ?_
        refine e_aload_n (i := 0) 56 dX12_rush_55 rfl rfl rfl ?_
        refine e_getr (j := 1) 59 fl_12_13 dX12_rush_56 at_928 rfl rfl tp_928_1 rfl ?_
        refine e_sipush 62 dX12_rush_59 (by decide) rfl ?_
        refine e_iald 63 dX12_rush_62 ar_929 (by decide) (by decide) rfl (fun r62 => ?_)
        refine e_iconst 64 dX12_rush_63 rfl ?_
        refine e_isub 65 dX12_rush_64 rfl ?_
        refine e_i2l 66 dX12_rush_65 (by omega) rfl ?_
        refine e_callS 69 mt_yX12_within ms_yX12_within wd_1390 (by decide) dX12_rush_66 rfl rfl (Nat.le_of_ble_eq_true rfl) (jroom (by decide)) rfl (m_within (by omega) (by omega) (by omega) (fun w66 => ?_) (fun w66 => ?_))
        · dsimp only [jpush]
          refine e_if_eq 72 88 dX12_rush_69 (by decide) (by decide) rfl (fun h => absurd h (by decide)) (fun _ => ?_)
          refine e_aload_n (i := 0) 73 dX12_rush_72 rfl rfl rfl ?_
          refine e_getr (j := 1) 76 fl_12_13 dX12_rush_73 at_928 rfl rfl tp_928_1 rfl ?_
          refine e_sipush 79 dX12_rush_76 (by decide) rfl ?_
          refine e_lload 81 dX12_rush_79 rfl rfl ?_
          refine e_l2i 82 dX12_rush_81 rfl ?_
          refine e_iadd 83 dX12_rush_82 rfl ?_
          refine e_iald 84 dX12_rush_83 ar_929 (by omega) (by omega) rfl (fun r83 => ?_)
          refine e_iconst 85 dX12_rush_84 rfl ?_
          refine e_icmp_ne 88 91 dX12_rush_85 (by omega) (by decide) (by decide) rfl (fun b85 => ?_) (fun b85 => ?_)
          · skip
            have hpr := hC.plr (p := fr + i) (by omega) (by omega)
            refine e_iload_n (i := 3) 92 dX12_rush_91 rfl rfl rfl ?_
            refine e_iconst 93 dX12_rush_92 rfl ?_
            refine e_aload_n (i := 0) 94 dX12_rush_93 rfl rfl rfl ?_
            refine e_getr (j := 1) 97 fl_12_13 dX12_rush_94 at_928 rfl rfl tp_928_1 rfl ?_
            refine e_sipush 100 dX12_rush_97 (by decide) rfl ?_
            refine e_aload_n (i := 0) 101 dX12_rush_100 rfl rfl rfl ?_
            refine e_getr (j := 1) 104 fl_12_13 dX12_rush_101 at_928 rfl rfl tp_928_1 rfl ?_
            refine e_sipush 107 dX12_rush_104 (by decide) rfl ?_
            refine e_lload 109 dX12_rush_107 rfl rfl ?_
            refine e_l2i 110 dX12_rush_109 rfl ?_
            refine e_iadd 111 dX12_rush_110 rfl ?_
            refine e_iald 112 dX12_rush_111 ar_929 (by omega) (by omega) rfl (fun r111 => ?_)
            refine e_iadd 113 dX12_rush_112 rfl ?_
            refine e_iald 114 dX12_rush_113 ar_929 (by omega) (by omega) rfl (fun r113 => ?_)
            refine e_imul 115 dX12_rush_114 rfl ?_
            refine e_iadd 116 dX12_rush_115 rfl ?_
            refine e_istore_n (i := 3) (lsn := [(3, _), (5, _), (0, _), (1, _), (2, _), (4, _)]) 117 dX12_rush_116 rfl (by decide) rfl rfl ?_
            refine e_iinc (lsn := [(4, _), (3, _), (5, _), (0, _), (1, _), (2, _)]) 120 dX12_rush_117 rfl (by decide) rfl rfl ?_
            refine e_goto 25 dX12_rush_120 (by decide) ?_
            refine e_ls (ls2 := [(0, _), (1, _), (2, _), (3, _), (4, _)]) rfl ?_
            refine ih (i + 1) (by omega) _ _ (by omega) ?_ ?_
            · rw [pickOk, hon]
              intro p hp2
              rcases List.mem_append.mp hp2 with q | q
              · exact hok p q
              · rw [List.mem_singleton.mp q]
                omega
            · rw [rRush, if_pos (by omega), hs]
              rfl
          · skip
            refine e_bipush 90 dX12_rush_88 (by decide) rfl ?_
            refine e_iret dX12_rush_90 ?_
            first
              | (exfalso; omega)
              | (refine h5 ⟨hb, fun q => ?_⟩
                 have q2 := pickOk_le (show i + 1 ≤ 8 by omega) q (fr + i) (by rw [hon]; exact List.mem_append_right _ (List.mem_singleton.mpr rfl))
                 omega)
        · dsimp only [jpush]
          refine e_if_eq 72 88 dX12_rush_69 (by decide) (by decide) rfl (fun _ => ?_) (fun h => absurd h (by decide))
          refine e_bipush 90 dX12_rush_88 (by decide) rfl ?_
          refine e_iret dX12_rush_90 ?_
          first
            | (exfalso; omega)
            | (refine h5 ⟨hb, fun q => ?_⟩
               have q2 := pickOk_le (show i + 1 ≤ 8 by omega) q (fr + i) (by rw [hon]; exact List.mem_append_right _ (List.mem_singleton.mpr rfl))
               omega)
      · skip
        refine e_goto 117 dX12_rush_41 (by decide) ?_
        refine e_iinc (lsn := [(4, _), (0, _), (1, _), (2, _), (3, _)]) 120 dX12_rush_117 rfl (by decide) rfl rfl ?_
        refine e_goto 25 dX12_rush_120 (by decide) ?_
        refine e_ls (ls2 := [(0, _), (1, _), (2, _), (3, _), (4, _)]) rfl ?_
        refine ih (i + 1) (by omega) _ _ (by omega) ?_ ?_
        · rw [pickOk, pickL, if_neg (by omega)]
          exact hok
        · rw [rRush, if_neg (by omega)]
          exact hs

theorem m_rush {fr bits : Int} {M : jM} {Q : Int → jM → Prop} (hC : CR M) (ht : M 928 0 = 0) (hf : -2147483648 ≤ fr ∧ fr ≤ 2147483647) (hbb : -2147483648 ≤ bits ∧ bits ≤ 2147483647) (h3 : bits < 0 ∨ 255 < bits → Q (-3) M) (h5 : (0 ≤ bits ∧ bits ≤ 255) ∧ ¬ pickOk (M 929) bits fr 8 → Q (-5) M) (h0 : (0 ≤ bits ∧ bits ≤ 255) ∧ pickOk (M 929) bits fr 8 → Q (rRush (M 929) bits fr 8) M) : jCt yX12_rush cX12_rush 7 (some .int) 2 [jR 928, jI fr, jI bits] M Q := by
  refine jCt_of mt_yX12_rush (Nat.le_of_ble_eq_true rfl) (fun X => ?_)
  refine e_aload_n (i := 0) 1 dX12_rush_0 rfl rfl rfl ?_
  refine e_iconst 2 dX12_rush_1 rfl ?_
  refine e_put0 (j := 0) 5 fl_12_1 dX12_rush_2 at_928 rfl rfl rfl (by decide) ht rfl ?_
  refine e_iload_n (i := 2) 6 dX12_rush_5 rfl rfl rfl ?_
  refine e_i2l 7 dX12_rush_6 (by omega) rfl ?_
  refine e_lconst0 8 dX12_rush_7 rfl ?_
  refine e_ldc2 (z := (255)) 11 (ix := 294) wd_1657 (by decide) dX12_rush_8 rfl ?_
  refine e_callS 14 mt_yX12_within ms_yX12_within wd_1390 (by decide) dX12_rush_11 rfl rfl (Nat.le_of_ble_eq_true rfl) (jroom (by decide)) rfl (m_within (by omega) (by omega) (by omega) (fun w11 => ?_) (fun w11 => ?_))
  · dsimp only [jpush]
    refine e_if_ne 17 20 dX12_rush_14 (by decide) (by decide) rfl (fun _ => ?_) (fun h => absurd h (by decide))
    refine e_iconst 21 dX12_rush_20 rfl ?_
    refine e_istore_n (i := 3) (lsn := [(3, _), (0, _), (1, _), (2, _)]) 22 dX12_rush_21 rfl (by decide) rfl rfl ?_
    refine e_iconst 23 dX12_rush_22 rfl ?_
    refine e_istore (lsn := [(4, _), (3, _), (0, _), (1, _), (2, _)]) 25 dX12_rush_23 (by decide) rfl rfl ?_
    refine e_ls (ls2 := [(0, _), (1, _), (2, _), (3, _), (4, _)]) rfl ?_
    exact lm_rush hC hf (by omega) h5 h0 8 0 rfl _ _ rfl (fun p hp => absurd hp List.not_mem_nil) rfl
  · dsimp only [jpush]
    refine e_if_ne 17 20 dX12_rush_14 (by decide) (by decide) rfl (fun h => absurd h (by decide)) (fun _ => ?_)
    refine e_bipush 19 dX12_rush_17 (by decide) rfl ?_
    refine e_iret dX12_rush_19 ?_
    exact h3 (by omega)

theorem p_rush {M : jM} (hI : Inv M) {fr : Int} (hfr : -2147483648 ≤ fr ∧ fr ≤ 2147483647) {bits : Int} (hbits : -2147483648 ≤ bits ∧ bits ≤ 2147483647) : jCt yX11_rush cX11_rush 3 (some .int) 3 [jR 0, jI fr, jI bits] M (fun z M1 => jCt yX12_rush cX12_rush 7 (some .int) 2 [jR 928, jI fr, jI bits] M1 (fun z2 M2 => z = z2 ∧ Inv M2)) := by
  have hC := hI.cr
  refine c_rush hC hfr hbits (fun w => ?_) (fun w Y hY => ?_) (fun w Y hY => ?_)
  · exact m_rush hC hI.1 hfr hbits (fun _ => ⟨rfl, hI⟩) (fun w2 => by omega) (fun w2 => by omega)
  · have hIY := hI.scr hY
    have e9 := hY.row
    refine m_rush hIY.cr hIY.1 hfr hbits (fun w2 => by omega) (fun _ => ⟨rfl, hIY⟩) (fun w2 => ?_)
    rw [e9] at w2
    exact absurd w2.2 w.2
  · have hIY := hI.scr hY
    have e9 := hY.row
    refine m_rush hIY.cr hIY.1 hfr hbits (fun w2 => by omega) (fun w2 => ?_) (fun _ => ?_)
    · rw [e9] at w2
      exact absurd w.2 w2.2
    · rw [e9]
      exact ⟨rfl, hIY⟩

