/-! PAIRS: feed, other -/
theorem bv_low (x y : Int32) (h : ∀ i, i < 8 → bt x i = bt y i) : x &&& 255 = y &&& 255 := by
  apply b_ext
  intro i _
  rw [b_and, b_and, b_255]
  by_cases q : i < 8
  · rw [h i q]
  · simp [q]
theorem w8_and (x : Int32) : w8 x.toInt = w8 (x &&& 255).toInt := by
  have e : (x &&& 255).toInt8 = x.toInt8 := by
    apply Int8.toBitVec_inj.mp
    rw [Int32.toBitVec_toInt8, Int32.toBitVec_toInt8, Int32.toBitVec_and]
    apply BitVec.eq_of_getLsbD_eq
    intro i hi
    rw [BitVec.getLsbD_signExtend, BitVec.getLsbD_signExtend, BitVec.getLsbD_and]
    have h255 : (255 : Int32).toBitVec.getLsbD i = true := (by decide : ∀ i, i < 8 → (255 : Int32).toBitVec.getLsbD i = true) i hi
    have h32 : i < 32 := by omega
    simp only [hi, h32, decide_true, Bool.true_and, if_true, h255, Bool.and_true]
  have a := of_i2b x.toInt
  have b := of_i2b (x &&& 255).toInt
  rw [of_to32] at a b
  rw [e, a] at b
  have c := congrArg Int32.toInt b
  rw [to_of32, to_of32, w32_id, w32_id] at c
  · exact c
  · unfold w8
    omega
  · unfold w8
    omega
theorem and_255 (x : Int32) : 0 ≤ (x &&& 255).toInt ∧ (x &&& 255).toInt ≤ 255 := by
  have e : x = nI x.toBitVec.toNat := Int32.toBitVec_inj.mp (by show _ = BitVec.ofNat 32 _; simp)
  have h2 : x &&& 255 = nI (x.toBitVec.toNat % 256) := by
    rw [e, show (255 : Int32) = nI 255 from rfl, nx_and]
    congr 1
    rw [← e]
    exact Nat.and_two_pow_sub_one_eq_mod _ 8
  rw [h2, nI_toInt (by omega)]
  omega
theorem feed_byte (v : Int) {n : Nat} (hn : n ≤ 24) : w8 (w8 (jushr v n)) = w8 (jand (jshr v n) 255) ∧ 0 ≤ jand (jshr v n) 255 ∧ jand (jshr v n) 255 ≤ 255 := by
  have e1 : Int32.ofInt (n : Int) = nI n := rfl
  have e2 : jand (jshr v n) 255 = ((Int32.ofInt v >>> (nI n &&& 31)) &&& 255).toInt := by
    unfold jand jshr
    rw [of_to32, e1]
    rfl
  have e3 : jushr v n = (((Int32.ofInt v).toUInt32 >>> ((nI n).toUInt32 &&& Int32.toUInt32 31)).toInt32).toInt := by
    unfold jushr
    rw [e1]
  have e4 := bv_low (((Int32.ofInt v).toUInt32 >>> ((nI n).toUInt32 &&& Int32.toUInt32 31)).toInt32) (Int32.ofInt v >>> (nI n &&& 31)) (fun i hi => by rw [b_ushr n (by omega), b_sshr n (by omega) _ (by omega), if_pos (by omega)])
  refine ⟨?_, ?_⟩
  · have a : w8 (w8 (jushr v n)) = w8 (jushr v n) := by
      unfold w8
      omega
    rw [a, e3, w8_and, e4, e2]
  · rw [e2]
    exact and_255 _
/-- so many bytes more on the tape, of the class, of the reference -/
def cFd (M : jM) (f : Int → Int) (n : Int) : jM := fun k j => if k = 884 ∧ M 883 1 ≤ j ∧ j < M 883 1 + n then f (j - M 883 1) else if k = 883 ∧ j = 1 then M 883 1 + n else M k j
def rFd (M : jM) (f : Int → Int) (n : Int) : jM := fun k j => if k = 931 ∧ M 928 5 ≤ j ∧ j < M 928 5 + n then f (j - M 928 5) else if k = 928 ∧ j = 5 then M 928 5 + n else M k j
theorem cFd_fed {M : jM} {f : Int → Int} {n : Int} : cFd M f n 883 1 = M 883 1 + n := by
  unfold cFd
  rw [if_neg (by omega), if_pos ⟨rfl, rfl⟩]
theorem rFd_fed {M : jM} {f : Int → Int} {n : Int} : rFd M f n 928 5 = M 928 5 + n := by
  unfold rFd
  rw [if_neg (by omega), if_pos ⟨rfl, rfl⟩]
theorem cFd_0 {M : jM} {f : Int → Int} : cFd M f 0 = M := by
  funext k j
  unfold cFd
  rw [if_neg (by omega)]
  by_cases e : k = 883 ∧ j = 1
  · rw [if_pos e, e.1, e.2, Int.add_zero]
  · rw [if_neg e]
theorem rFd_0 {M : jM} {f : Int → Int} : rFd M f 0 = M := by
  funext k j
  unfold rFd
  rw [if_neg (by omega)]
  by_cases e : k = 928 ∧ j = 5
  · rw [if_pos e, e.1, e.2, Int.add_zero]
  · rw [if_neg e]
theorem cFd_s {M : jM} {f : Int → Int} {n b : Int} (h : 0 ≤ n) (hb : b = f n) : jset (jset (cFd M f n) 884 (M 883 1 + n) b) 883 1 (M 883 1 + n + 1) = cFd M f (n + 1) := by
  funext k j
  by_cases e : k = 883 ∧ j = 1
  · rw [e.1, e.2, jset_same, cFd_fed]
    omega
  · by_cases e2 : k = 884 ∧ j = M 883 1 + n
    · rw [e2.1, e2.2, jset_k (by omega), jset_same]
      unfold cFd
      rw [if_pos (by omega), hb]
      congr 1
      omega
    · have e3 : jset (jset (cFd M f n) 884 (M 883 1 + n) b) 883 1 (M 883 1 + n + 1) k j = cFd M f n k j := by
        unfold jset
        rw [if_neg e, if_neg e2]
      rw [e3]
      unfold cFd
      rw [if_neg e, if_neg e]
      by_cases e4 : k = 884 ∧ M 883 1 ≤ j ∧ j < M 883 1 + n
      · rw [if_pos e4, if_pos (by omega)]
      · rw [if_neg e4, if_neg (by omega)]
theorem rFd_s {M : jM} {f : Int → Int} {n b : Int} (h : 0 ≤ n) (hb : b = f n) : jset (jset (rFd M f n) 931 (M 928 5 + n) b) 928 5 (M 928 5 + n + 1) = rFd M f (n + 1) := by
  funext k j
  by_cases e : k = 928 ∧ j = 5
  · rw [e.1, e.2, jset_same, rFd_fed]
    omega
  · by_cases e2 : k = 931 ∧ j = M 928 5 + n
    · rw [e2.1, e2.2, jset_k (by omega), jset_same]
      unfold rFd
      rw [if_pos (by omega), hb]
      congr 1
      omega
    · have e3 : jset (jset (rFd M f n) 931 (M 928 5 + n) b) 928 5 (M 928 5 + n + 1) k j = rFd M f n k j := by
        unfold jset
        rw [if_neg e, if_neg e2]
      rw [e3]
      unfold rFd
      rw [if_neg e, if_neg e]
      by_cases e4 : k = 931 ∧ M 928 5 ≤ j ∧ j < M 928 5 + n
      · rw [if_pos e4, if_pos (by omega)]
      · rw [if_neg e4, if_neg (by omega)]
def selV (a b c d e k : Int) : Int := if k < 4 then a else if k < 8 then b else if k < 12 then c else if k < 16 then d else e
def cByte (a b c d e k : Int) : Int := w8 (w8 (jushr (selV a b c d e k) (24 - 8 * (k % 4))))
def rByte (a b c d e k : Int) : Int := jand (jshr (selV a b c d e k) (24 - 8 * (k % 4))) 255
theorem byte_eq (a b c d e k : Int) : cByte a b c d e k = w8 (rByte a b c d e k) ∧ 0 ≤ rByte a b c d e k ∧ rByte a b c d e k ≤ 255 := by
  have h := feed_byte (selV a b c d e k) (n := (24 - 8 * (k % 4)).toNat) (by omega)
  have e2 : (((24 - 8 * (k % 4)).toNat : Nat) : Int) = 24 - 8 * (k % 4) := by omega
  rw [e2] at h
  exact h
theorem c_append {f : Int → Int} {v n m : Int} {M : jM} {Q : Int → jM → Prop} (h0 : 0 ≤ M 883 1 ∧ 0 ≤ n ∧ M 883 1 + n ≤ 396) (hm : m = n + 4) (e0 : f n = w8 (w8 (jushr v 24))) (e1 : f (n + 1) = w8 (w8 (jushr v 16))) (e2 : f (n + 2) = w8 (w8 (jushr v 8))) (e3 : f (n + 3) = w8 (w8 (jushr v 0))) (h : Q 0 (cFd M f m)) : jCt yX9_append cX9_append 3 none 1 [jR 883, jI v] (cFd M f n) Q := by
  refine jCt_of mt_yX9_append (Nat.le_of_ble_eq_true rfl) (fun X => ?_)
  refine e_bipush 2 dX9_append_0 (by decide) rfl ?_
  refine e_istore_n (i := 2) (lsn := [(2, _), (0, _), (1, _)]) 3 dX9_append_2 rfl (by decide) rfl rfl ?_
  refine e_iload_n (i := 2) 4 dX9_append_3 rfl rfl rfl ?_
  refine e_if_lt 7 46 dX9_append_4 (by decide) (by decide) rfl (fun h => absurd h (by decide)) (fun _ => ?_)
  refine e_aload_n (i := 0) 8 dX9_append_7 rfl rfl rfl ?_
  refine e_geti (j := 1) 11 fl_9_15 dX9_append_8 at_883 (by decide) rfl rfl (fun r8 => ?_)
  simp (disch := omega) only [jset_k, jset_j, jset_same, true_and, and_true, cFd_fed] at r8 ⊢
  refine e_sipush 14 dX9_append_11 (by decide) rfl ?_
  refine e_icmp_ge 17 46 dX9_append_14 (by omega) (by decide) (by decide) rfl (fun b14 => ?_) (fun b14 => ?_)
  · omega
  · skip
    refine e_aload_n (i := 0) 18 dX9_append_17 rfl rfl rfl ?_
    refine e_getr (j := 0) 21 fl_9_9 dX9_append_18 at_883 rfl rfl tp_883_0 rfl ?_
    refine e_aload_n (i := 0) 22 dX9_append_21 rfl rfl rfl ?_
    refine e_geti (j := 1) 25 fl_9_15 dX9_append_22 at_883 (by decide) rfl rfl (fun r22 => ?_)
    simp (disch := omega) only [jset_k, jset_j, jset_same, true_and, and_true, cFd_fed] at r22 ⊢
    refine e_iload_n (i := 1) 26 dX9_append_25 rfl rfl rfl ?_
    refine e_iload_n (i := 2) 27 dX9_append_26 rfl rfl rfl ?_
    refine e_iushr 28 dX9_append_27 rfl ?_
    refine e_i2b 29 dX9_append_28 rfl ?_
    refine e_bast 30 dX9_append_29 ar_884 (by omega) (by omega) rfl ?_
    refine e_aload_n (i := 0) 31 dX9_append_30 rfl rfl rfl ?_
    refine e_dup 32 dX9_append_31 rfl rfl ?_
    refine e_geti (j := 1) 35 fl_9_15 dX9_append_32 at_883 (by decide) rfl rfl (fun r32 => ?_)
    simp (disch := omega) only [jset_k, jset_j, jset_same, true_and, and_true, cFd_fed] at r32 ⊢
    refine e_iconst 36 dX9_append_35 rfl ?_
    refine e_iadd 37 dX9_append_36 rfl ?_
    refine e_puti (j := 1) 40 fl_9_15 dX9_append_37 at_883 rfl rfl rfl (by omega) rfl ?_
    refine e_iinc (lsn := [(2, _), (0, _), (1, _)]) 43 dX9_append_40 rfl (by decide) rfl rfl ?_
    refine e_goto 3 dX9_append_43 (by decide) ?_
    refine e_iload_n (i := 2) 4 dX9_append_3 rfl rfl rfl ?_
    refine e_if_lt 7 46 dX9_append_4 (by decide) (by decide) rfl (fun h => absurd h (by decide)) (fun _ => ?_)
    refine e_aload_n (i := 0) 8 dX9_append_7 rfl rfl rfl ?_
    refine e_geti (j := 1) 11 fl_9_15 dX9_append_8 at_883 (by decide) rfl rfl (fun r8 => ?_)
    simp (disch := omega) only [jset_k, jset_j, jset_same, true_and, and_true, cFd_fed] at r8 ⊢
    refine e_sipush 14 dX9_append_11 (by decide) rfl ?_
    refine e_icmp_ge 17 46 dX9_append_14 (by omega) (by decide) (by decide) rfl (fun b14 => ?_) (fun b14 => ?_)
    · omega
    · skip
      refine e_aload_n (i := 0) 18 dX9_append_17 rfl rfl rfl ?_
      refine e_getr (j := 0) 21 fl_9_9 dX9_append_18 at_883 rfl rfl tp_883_0 rfl ?_
      refine e_aload_n (i := 0) 22 dX9_append_21 rfl rfl rfl ?_
      refine e_geti (j := 1) 25 fl_9_15 dX9_append_22 at_883 (by decide) rfl rfl (fun r22 => ?_)
      simp (disch := omega) only [jset_k, jset_j, jset_same, true_and, and_true, cFd_fed] at r22 ⊢
      refine e_iload_n (i := 1) 26 dX9_append_25 rfl rfl rfl ?_
      refine e_iload_n (i := 2) 27 dX9_append_26 rfl rfl rfl ?_
      refine e_iushr 28 dX9_append_27 rfl ?_
      refine e_i2b 29 dX9_append_28 rfl ?_
      refine e_bast 30 dX9_append_29 ar_884 (by omega) (by omega) rfl ?_
      refine e_aload_n (i := 0) 31 dX9_append_30 rfl rfl rfl ?_
      refine e_dup 32 dX9_append_31 rfl rfl ?_
      refine e_geti (j := 1) 35 fl_9_15 dX9_append_32 at_883 (by decide) rfl rfl (fun r32 => ?_)
      simp (disch := omega) only [jset_k, jset_j, jset_same, true_and, and_true, cFd_fed] at r32 ⊢
      refine e_iconst 36 dX9_append_35 rfl ?_
      refine e_iadd 37 dX9_append_36 rfl ?_
      refine e_puti (j := 1) 40 fl_9_15 dX9_append_37 at_883 rfl rfl rfl (by omega) rfl ?_
      refine e_iinc (lsn := [(2, _), (0, _), (1, _)]) 43 dX9_append_40 rfl (by decide) rfl rfl ?_
      refine e_goto 3 dX9_append_43 (by decide) ?_
      refine e_iload_n (i := 2) 4 dX9_append_3 rfl rfl rfl ?_
      refine e_if_lt 7 46 dX9_append_4 (by decide) (by decide) rfl (fun h => absurd h (by decide)) (fun _ => ?_)
      refine e_aload_n (i := 0) 8 dX9_append_7 rfl rfl rfl ?_
      refine e_geti (j := 1) 11 fl_9_15 dX9_append_8 at_883 (by decide) rfl rfl (fun r8 => ?_)
      simp (disch := omega) only [jset_k, jset_j, jset_same, true_and, and_true, cFd_fed] at r8 ⊢
      refine e_sipush 14 dX9_append_11 (by decide) rfl ?_
      refine e_icmp_ge 17 46 dX9_append_14 (by omega) (by decide) (by decide) rfl (fun b14 => ?_) (fun b14 => ?_)
      · omega
      · skip
        refine e_aload_n (i := 0) 18 dX9_append_17 rfl rfl rfl ?_
        refine e_getr (j := 0) 21 fl_9_9 dX9_append_18 at_883 rfl rfl tp_883_0 rfl ?_
        refine e_aload_n (i := 0) 22 dX9_append_21 rfl rfl rfl ?_
        refine e_geti (j := 1) 25 fl_9_15 dX9_append_22 at_883 (by decide) rfl rfl (fun r22 => ?_)
        simp (disch := omega) only [jset_k, jset_j, jset_same, true_and, and_true, cFd_fed] at r22 ⊢
        refine e_iload_n (i := 1) 26 dX9_append_25 rfl rfl rfl ?_
        refine e_iload_n (i := 2) 27 dX9_append_26 rfl rfl rfl ?_
        refine e_iushr 28 dX9_append_27 rfl ?_
        refine e_i2b 29 dX9_append_28 rfl ?_
        refine e_bast 30 dX9_append_29 ar_884 (by omega) (by omega) rfl ?_
        refine e_aload_n (i := 0) 31 dX9_append_30 rfl rfl rfl ?_
        refine e_dup 32 dX9_append_31 rfl rfl ?_
        refine e_geti (j := 1) 35 fl_9_15 dX9_append_32 at_883 (by decide) rfl rfl (fun r32 => ?_)
        simp (disch := omega) only [jset_k, jset_j, jset_same, true_and, and_true, cFd_fed] at r32 ⊢
        refine e_iconst 36 dX9_append_35 rfl ?_
        refine e_iadd 37 dX9_append_36 rfl ?_
        refine e_puti (j := 1) 40 fl_9_15 dX9_append_37 at_883 rfl rfl rfl (by omega) rfl ?_
        refine e_iinc (lsn := [(2, _), (0, _), (1, _)]) 43 dX9_append_40 rfl (by decide) rfl rfl ?_
        refine e_goto 3 dX9_append_43 (by decide) ?_
        refine e_iload_n (i := 2) 4 dX9_append_3 rfl rfl rfl ?_
        refine e_if_lt 7 46 dX9_append_4 (by decide) (by decide) rfl (fun h => absurd h (by decide)) (fun _ => ?_)
        refine e_aload_n (i := 0) 8 dX9_append_7 rfl rfl rfl ?_
        refine e_geti (j := 1) 11 fl_9_15 dX9_append_8 at_883 (by decide) rfl rfl (fun r8 => ?_)
        simp (disch := omega) only [jset_k, jset_j, jset_same, true_and, and_true, cFd_fed] at r8 ⊢
        refine e_sipush 14 dX9_append_11 (by decide) rfl ?_
        refine e_icmp_ge 17 46 dX9_append_14 (by omega) (by decide) (by decide) rfl (fun b14 => ?_) (fun b14 => ?_)
        · omega
        · skip
          refine e_aload_n (i := 0) 18 dX9_append_17 rfl rfl rfl ?_
          refine e_getr (j := 0) 21 fl_9_9 dX9_append_18 at_883 rfl rfl tp_883_0 rfl ?_
          refine e_aload_n (i := 0) 22 dX9_append_21 rfl rfl rfl ?_
          refine e_geti (j := 1) 25 fl_9_15 dX9_append_22 at_883 (by decide) rfl rfl (fun r22 => ?_)
          simp (disch := omega) only [jset_k, jset_j, jset_same, true_and, and_true, cFd_fed] at r22 ⊢
          refine e_iload_n (i := 1) 26 dX9_append_25 rfl rfl rfl ?_
          refine e_iload_n (i := 2) 27 dX9_append_26 rfl rfl rfl ?_
          refine e_iushr 28 dX9_append_27 rfl ?_
          refine e_i2b 29 dX9_append_28 rfl ?_
          refine e_bast 30 dX9_append_29 ar_884 (by omega) (by omega) rfl ?_
          refine e_aload_n (i := 0) 31 dX9_append_30 rfl rfl rfl ?_
          refine e_dup 32 dX9_append_31 rfl rfl ?_
          refine e_geti (j := 1) 35 fl_9_15 dX9_append_32 at_883 (by decide) rfl rfl (fun r32 => ?_)
          simp (disch := omega) only [jset_k, jset_j, jset_same, true_and, and_true, cFd_fed] at r32 ⊢
          refine e_iconst 36 dX9_append_35 rfl ?_
          refine e_iadd 37 dX9_append_36 rfl ?_
          refine e_puti (j := 1) 40 fl_9_15 dX9_append_37 at_883 rfl rfl rfl (by omega) rfl ?_
          refine e_iinc (lsn := [(2, _), (0, _), (1, _)]) 43 dX9_append_40 rfl (by decide) rfl rfl ?_
          refine e_goto 3 dX9_append_43 (by decide) ?_
          refine e_iload_n (i := 2) 4 dX9_append_3 rfl rfl rfl ?_
          refine e_if_lt 7 46 dX9_append_4 (by decide) (by decide) rfl (fun _ => ?_) (fun h => absurd h (by decide))
          refine e_vret dX9_append_46 ?_
          have k0 := cFd_s (M := M) (f := f) (n := n) (b := w8 (w8 (jushr v 24))) h0.2.1 e0.symm
          have k1 := cFd_s (M := M) (f := f) (n := n + 1) (b := w8 (w8 (jushr v 16))) (by omega) e1.symm
          have k2 := cFd_s (M := M) (f := f) (n := n + 1 + 1) (b := w8 (w8 (jushr v 8))) (by omega) (by rw [Int.add_assoc]; exact e2.symm)
          have k3 := cFd_s (M := M) (f := f) (n := n + 1 + 1 + 1) (b := w8 (w8 (jushr v 0))) (by omega) (by rw [Int.add_assoc, Int.add_assoc]; exact e3.symm)
          simp only [← Int.add_assoc] at k1 k2 k3
          rw [show (24 : Int) + -8 + -8 + -8 = 0 by decide, show (24 : Int) + -8 + -8 = 8 by decide, show (24 : Int) + -8 = 16 by decide, k0, k1, k2, k3, show n + 1 + 1 + 1 + 1 = m by omega]
          exact h

theorem c_feed {a b c d e : Int} {M : jM} {Q : Int → jM → Prop} (ht : 0 ≤ M 883 1 ∧ M 883 1 ≤ 400) (h4 : 380 < M 883 1 → Q (-4) M) (h0 : M 883 1 ≤ 380 → Q (M 883 1 + 20) (cFd M (cByte a b c d e) 20)) : jCt yX11_feed cX11_feed 7 (some .int) 2 [jR 0, jI a, jI b, jI c, jI d, jI e] M Q := by
  refine jCt_of mt_yX11_feed (Nat.le_of_ble_eq_true rfl) (fun X => ?_)
  refine e_aload_n (i := 0) 1 dX11_feed_0 rfl rfl rfl ?_
  refine e_getr (j := 3) 4 fl_11_27 dX11_feed_1 at_0 rfl rfl tp_0_3 rfl ?_
  refine e_getr (j := 0) 7 fl_11_45 dX11_feed_4 at_882 rfl rfl tp_882_0 rfl ?_
  refine e_astore (lsn := [(6, _), (0, _), (1, _), (2, _), (3, _), (4, _), (5, _)]) 9 dX11_feed_7 (by decide) rfl rfl ?_
  refine e_aload 11 dX11_feed_9 rfl rfl ?_
  refine e_geti (j := 1) 14 fl_11_49 dX11_feed_11 at_883 (by decide) rfl rfl (fun r11 => ?_)
  refine e_bipush 16 dX11_feed_14 (by decide) rfl ?_
  refine e_iadd 17 dX11_feed_16 rfl ?_
  refine e_sipush 20 dX11_feed_17 (by decide) rfl ?_
  refine e_icmp_le 23 26 dX11_feed_20 (by omega) (by decide) (by decide) rfl (fun b20 => ?_) (fun b20 => ?_)
  · skip
    refine Eq.subst (motive := fun x => jE X yX11_feed cX11_feed 7 (some .int) 2 Q x 26 [(6, jR 883), (0, jR 0), (1, jI a), (2, jI b), (3, jI c), (4, jI d), (5, jI e)] []) (cFd_0 (f := (cByte a b c d e))) ?_
    refine e_aload 28 dX11_feed_26 rfl rfl ?_
    refine e_iload_n (i := 1) 29 dX11_feed_28 rfl rfl rfl ?_
    refine e_callV 32 mt_yX9_append mv_yX9_append wd_523 (by decide) dX11_feed_29 at_883 jc_9 rfl rfl rfl (Nat.le_of_ble_eq_true rfl) (jroom (by decide)) rfl (c_append (f := cByte a b c d e) (n := 0) (m := 4) (by (try simp (disch := omega) only [jset_k, jset_j, jset_same, true_and, and_true, cFd_fed]); omega) rfl rfl rfl rfl rfl ?_)
    dsimp only [jpush]
    (try simp (disch := omega) only [jset_k, jset_j, jset_same, true_and, and_true, cFd_fed])
    refine e_aload 34 dX11_feed_32 rfl rfl ?_
    refine e_iload_n (i := 2) 35 dX11_feed_34 rfl rfl rfl ?_
    refine e_callV 38 mt_yX9_append mv_yX9_append wd_523 (by decide) dX11_feed_35 at_883 jc_9 rfl rfl rfl (Nat.le_of_ble_eq_true rfl) (jroom (by decide)) rfl (c_append (f := cByte a b c d e) (n := 4) (m := 8) (by (try simp (disch := omega) only [jset_k, jset_j, jset_same, true_and, and_true, cFd_fed]); omega) rfl rfl rfl rfl rfl ?_)
    dsimp only [jpush]
    (try simp (disch := omega) only [jset_k, jset_j, jset_same, true_and, and_true, cFd_fed])
    refine e_aload 40 dX11_feed_38 rfl rfl ?_
    refine e_iload_n (i := 3) 41 dX11_feed_40 rfl rfl rfl ?_
    refine e_callV 44 mt_yX9_append mv_yX9_append wd_523 (by decide) dX11_feed_41 at_883 jc_9 rfl rfl rfl (Nat.le_of_ble_eq_true rfl) (jroom (by decide)) rfl (c_append (f := cByte a b c d e) (n := 8) (m := 12) (by (try simp (disch := omega) only [jset_k, jset_j, jset_same, true_and, and_true, cFd_fed]); omega) rfl rfl rfl rfl rfl ?_)
    dsimp only [jpush]
    (try simp (disch := omega) only [jset_k, jset_j, jset_same, true_and, and_true, cFd_fed])
    refine e_aload 46 dX11_feed_44 rfl rfl ?_
    refine e_iload 48 dX11_feed_46 rfl rfl ?_
    refine e_callV 51 mt_yX9_append mv_yX9_append wd_523 (by decide) dX11_feed_48 at_883 jc_9 rfl rfl rfl (Nat.le_of_ble_eq_true rfl) (jroom (by decide)) rfl (c_append (f := cByte a b c d e) (n := 12) (m := 16) (by (try simp (disch := omega) only [jset_k, jset_j, jset_same, true_and, and_true, cFd_fed]); omega) rfl rfl rfl rfl rfl ?_)
    dsimp only [jpush]
    (try simp (disch := omega) only [jset_k, jset_j, jset_same, true_and, and_true, cFd_fed])
    refine e_aload 53 dX11_feed_51 rfl rfl ?_
    refine e_iload 55 dX11_feed_53 rfl rfl ?_
    refine e_callV 58 mt_yX9_append mv_yX9_append wd_523 (by decide) dX11_feed_55 at_883 jc_9 rfl rfl rfl (Nat.le_of_ble_eq_true rfl) (jroom (by decide)) rfl (c_append (f := cByte a b c d e) (n := 16) (m := 20) (by (try simp (disch := omega) only [jset_k, jset_j, jset_same, true_and, and_true, cFd_fed]); omega) rfl rfl rfl rfl rfl ?_)
    dsimp only [jpush]
    (try simp (disch := omega) only [jset_k, jset_j, jset_same, true_and, and_true, cFd_fed])
    refine e_aload 60 dX11_feed_58 rfl rfl ?_
    refine e_geti (j := 1) 63 fl_11_49 dX11_feed_60 at_883 (by decide) rfl rfl (fun r60 => ?_)
    simp (disch := omega) only [jset_k, jset_j, jset_same, true_and, and_true, cFd_fed] at r60 ⊢
    refine e_iret dX11_feed_63 ?_
    first | exact h4 (by omega) | exact h0 (by omega)
  · skip
    refine e_bipush 25 dX11_feed_23 (by decide) rfl ?_
    refine e_iret dX11_feed_25 ?_
    first | exact h4 (by omega) | exact h0 (by omega)

theorem lm_feed {X : jX} {a b c d e : Int} {M : jM} {Q : Int → jM → Prop} (ht : 0 ≤ M 928 5 ∧ M 928 5 ≤ 380) (h : Q (M 928 5 + 20) (rFd M (rByte a b c d e) 20)) : ∀ (n : Nat) (ii : Int), 0 ≤ ii → ii + n = 20 → jE X yX12_feed cX12_feed 8 (some .int) 1 Q (rFd M (rByte a b c d e) ii) 24 [(0, jR 928), (1, jI a), (2, jI b), (3, jI c), (4, jI d), (5, jI e), (6, jI ii)] [] := by
  intro n
  induction n with
  | zero =>
    intro ii h0 hi
    have e20 : ii = 20 := by omega
    subst e20
    refine e_iload 26 dX12_feed_24 rfl rfl ?_
    refine e_bipush 28 dX12_feed_26 (by decide) rfl ?_
    refine e_icmp_ge 31 121 dX12_feed_28 (by omega) (by decide) (by decide) rfl (fun b28 => ?_) (fun b28 => ?_)
    · skip
      refine e_aload_n (i := 0) 122 dX12_feed_121 rfl rfl rfl ?_
      refine e_geti (j := 5) 125 fl_12_79 dX12_feed_122 at_928 (by decide) rfl rfl (fun r122 => ?_)
      simp (disch := omega) only [jset_k, jset_j, jset_same, true_and, and_true, rFd_fed] at r122 ⊢
      refine e_iret dX12_feed_125 ?_
      exact h
    · omega
  | succ n ih =>
    intro ii h0 hi
    have et : ii.tmod 4 = ii % 4 := Int.tmod_eq_emod_of_nonneg h0
    refine e_iload 26 dX12_feed_24 rfl rfl ?_
    refine e_bipush 28 dX12_feed_26 (by decide) rfl ?_
    refine e_icmp_ge 31 121 dX12_feed_28 (by omega) (by decide) (by decide) rfl (fun b28 => ?_) (fun b28 => ?_)
    · omega
    · skip
      refine e_iload 33 dX12_feed_31 rfl rfl ?_
      refine e_iconst 34 dX12_feed_33 rfl ?_
      refine e_icmp_ge 37 41 dX12_feed_34 (by omega) (by decide) (by decide) rfl (fun b34 => ?_) (fun b34 => ?_)
      · skip
        refine e_iload 43 dX12_feed_41 rfl rfl ?_
        refine e_bipush 45 dX12_feed_43 (by decide) rfl ?_
        refine e_icmp_ge 48 52 dX12_feed_45 (by omega) (by decide) (by decide) rfl (fun b45 => ?_) (fun b45 => ?_)
        · skip
          refine e_iload 54 dX12_feed_52 rfl rfl ?_
          refine e_bipush 56 dX12_feed_54 (by decide) rfl ?_
          refine e_icmp_ge 59 63 dX12_feed_56 (by omega) (by decide) (by decide) rfl (fun b56 => ?_) (fun b56 => ?_)
          · skip
            refine e_iload 65 dX12_feed_63 rfl rfl ?_
            refine e_bipush 67 dX12_feed_65 (by decide) rfl ?_
            refine e_icmp_ge 70 75 dX12_feed_67 (by omega) (by decide) (by decide) rfl (fun b67 => ?_) (fun b67 => ?_)
            · skip
              refine e_iload 77 dX12_feed_75 rfl rfl ?_
              refine e_eqst (st2 := [jI (selV a b c d e ii)]) (by unfold selV; repeat (first | rw [if_pos (by omega)] | rw [if_neg (by omega)])) ?_
              refine e_istore (lsn := [(7, _), (0, _), (1, _), (2, _), (3, _), (4, _), (5, _), (6, _)]) 79 dX12_feed_77 (by decide) rfl rfl ?_
              refine e_aload_n (i := 0) 80 dX12_feed_79 rfl rfl rfl ?_
              refine e_getr (j := 3) 83 fl_12_21 dX12_feed_80 at_928 rfl rfl tp_928_3 rfl ?_
              refine e_aload_n (i := 0) 84 dX12_feed_83 rfl rfl rfl ?_
              refine e_geti (j := 5) 87 fl_12_79 dX12_feed_84 at_928 (by decide) rfl rfl (fun r84 => ?_)
              simp (disch := omega) only [jset_k, jset_j, jset_same, true_and, and_true, rFd_fed] at r84 ⊢
              refine e_iload 89 dX12_feed_87 rfl rfl ?_
              refine e_bipush 91 dX12_feed_89 (by decide) rfl ?_
              refine e_bipush 93 dX12_feed_91 (by decide) rfl ?_
              refine e_iload 95 dX12_feed_93 rfl rfl ?_
              refine e_iconst 96 dX12_feed_95 rfl ?_
              refine e_irem 97 dX12_feed_96 (by omega) (by decide) (by decide) rfl ?_
              rw [et]
              refine e_imul 98 dX12_feed_97 rfl ?_
              refine e_isub 99 dX12_feed_98 rfl ?_
              refine e_ishr 100 dX12_feed_99 rfl ?_
              refine e_sipush 103 dX12_feed_100 (by decide) rfl ?_
              refine e_iand 104 dX12_feed_103 rfl ?_
              have bq := (byte_eq a b c d e ii).2
              have bs : jand (jshr (selV a b c d e ii) (24 - 8 * (ii % 4))) 255 = rByte a b c d e ii := rfl
              rw [bs]
              refine e_iast 105 dX12_feed_104 ar_931 (by omega) (by omega) (by omega) rfl ?_
              refine e_aload_n (i := 0) 106 dX12_feed_105 rfl rfl rfl ?_
              refine e_dup 107 dX12_feed_106 rfl rfl ?_
              refine e_geti (j := 5) 110 fl_12_79 dX12_feed_107 at_928 (by decide) rfl rfl (fun r107 => ?_)
              simp (disch := omega) only [jset_k, jset_j, jset_same, true_and, and_true, rFd_fed] at r107 ⊢
              refine e_iconst 111 dX12_feed_110 rfl ?_
              refine e_iadd 112 dX12_feed_111 rfl ?_
              refine e_puti (j := 5) 115 fl_12_79 dX12_feed_112 at_928 rfl rfl rfl (by omega) rfl ?_
              refine e_iinc (lsn := [(6, _), (7, _), (0, _), (1, _), (2, _), (3, _), (4, _), (5, _)]) 118 dX12_feed_115 rfl (by decide) rfl rfl ?_
              refine e_goto 24 dX12_feed_118 (by decide) ?_
              refine e_ls (ls2 := [(0, _), (1, _), (2, _), (3, _), (4, _), (5, _), (6, _)]) rfl ?_
              rw [rFd_s h0 rfl]
              exact ih (ii + 1) (by omega) (by omega)
            · skip
              refine e_iload 72 dX12_feed_70 rfl rfl ?_
              refine e_goto 77 dX12_feed_72 (by decide) ?_
              refine e_eqst (st2 := [jI (selV a b c d e ii)]) (by unfold selV; repeat (first | rw [if_pos (by omega)] | rw [if_neg (by omega)])) ?_
              refine e_istore (lsn := [(7, _), (0, _), (1, _), (2, _), (3, _), (4, _), (5, _), (6, _)]) 79 dX12_feed_77 (by decide) rfl rfl ?_
              refine e_aload_n (i := 0) 80 dX12_feed_79 rfl rfl rfl ?_
              refine e_getr (j := 3) 83 fl_12_21 dX12_feed_80 at_928 rfl rfl tp_928_3 rfl ?_
              refine e_aload_n (i := 0) 84 dX12_feed_83 rfl rfl rfl ?_
              refine e_geti (j := 5) 87 fl_12_79 dX12_feed_84 at_928 (by decide) rfl rfl (fun r84 => ?_)
              simp (disch := omega) only [jset_k, jset_j, jset_same, true_and, and_true, rFd_fed] at r84 ⊢
              refine e_iload 89 dX12_feed_87 rfl rfl ?_
              refine e_bipush 91 dX12_feed_89 (by decide) rfl ?_
              refine e_bipush 93 dX12_feed_91 (by decide) rfl ?_
              refine e_iload 95 dX12_feed_93 rfl rfl ?_
              refine e_iconst 96 dX12_feed_95 rfl ?_
              refine e_irem 97 dX12_feed_96 (by omega) (by decide) (by decide) rfl ?_
              rw [et]
              refine e_imul 98 dX12_feed_97 rfl ?_
              refine e_isub 99 dX12_feed_98 rfl ?_
              refine e_ishr 100 dX12_feed_99 rfl ?_
              refine e_sipush 103 dX12_feed_100 (by decide) rfl ?_
              refine e_iand 104 dX12_feed_103 rfl ?_
              have bq := (byte_eq a b c d e ii).2
              have bs : jand (jshr (selV a b c d e ii) (24 - 8 * (ii % 4))) 255 = rByte a b c d e ii := rfl
              rw [bs]
              refine e_iast 105 dX12_feed_104 ar_931 (by omega) (by omega) (by omega) rfl ?_
              refine e_aload_n (i := 0) 106 dX12_feed_105 rfl rfl rfl ?_
              refine e_dup 107 dX12_feed_106 rfl rfl ?_
              refine e_geti (j := 5) 110 fl_12_79 dX12_feed_107 at_928 (by decide) rfl rfl (fun r107 => ?_)
              simp (disch := omega) only [jset_k, jset_j, jset_same, true_and, and_true, rFd_fed] at r107 ⊢
              refine e_iconst 111 dX12_feed_110 rfl ?_
              refine e_iadd 112 dX12_feed_111 rfl ?_
              refine e_puti (j := 5) 115 fl_12_79 dX12_feed_112 at_928 rfl rfl rfl (by omega) rfl ?_
              refine e_iinc (lsn := [(6, _), (7, _), (0, _), (1, _), (2, _), (3, _), (4, _), (5, _)]) 118 dX12_feed_115 rfl (by decide) rfl rfl ?_
              refine e_goto 24 dX12_feed_118 (by decide) ?_
              refine e_ls (ls2 := [(0, _), (1, _), (2, _), (3, _), (4, _), (5, _), (6, _)]) rfl ?_
              rw [rFd_s h0 rfl]
              exact ih (ii + 1) (by omega) (by omega)
          · skip
            refine e_iload_n (i := 3) 60 dX12_feed_59 rfl rfl rfl ?_
            refine e_goto 77 dX12_feed_60 (by decide) ?_
            refine e_eqst (st2 := [jI (selV a b c d e ii)]) (by unfold selV; repeat (first | rw [if_pos (by omega)] | rw [if_neg (by omega)])) ?_
            refine e_istore (lsn := [(7, _), (0, _), (1, _), (2, _), (3, _), (4, _), (5, _), (6, _)]) 79 dX12_feed_77 (by decide) rfl rfl ?_
            refine e_aload_n (i := 0) 80 dX12_feed_79 rfl rfl rfl ?_
            refine e_getr (j := 3) 83 fl_12_21 dX12_feed_80 at_928 rfl rfl tp_928_3 rfl ?_
            refine e_aload_n (i := 0) 84 dX12_feed_83 rfl rfl rfl ?_
            refine e_geti (j := 5) 87 fl_12_79 dX12_feed_84 at_928 (by decide) rfl rfl (fun r84 => ?_)
            simp (disch := omega) only [jset_k, jset_j, jset_same, true_and, and_true, rFd_fed] at r84 ⊢
            refine e_iload 89 dX12_feed_87 rfl rfl ?_
            refine e_bipush 91 dX12_feed_89 (by decide) rfl ?_
            refine e_bipush 93 dX12_feed_91 (by decide) rfl ?_
            refine e_iload 95 dX12_feed_93 rfl rfl ?_
            refine e_iconst 96 dX12_feed_95 rfl ?_
            refine e_irem 97 dX12_feed_96 (by omega) (by decide) (by decide) rfl ?_
            rw [et]
            refine e_imul 98 dX12_feed_97 rfl ?_
            refine e_isub 99 dX12_feed_98 rfl ?_
            refine e_ishr 100 dX12_feed_99 rfl ?_
            refine e_sipush 103 dX12_feed_100 (by decide) rfl ?_
            refine e_iand 104 dX12_feed_103 rfl ?_
            have bq := (byte_eq a b c d e ii).2
            have bs : jand (jshr (selV a b c d e ii) (24 - 8 * (ii % 4))) 255 = rByte a b c d e ii := rfl
            rw [bs]
            refine e_iast 105 dX12_feed_104 ar_931 (by omega) (by omega) (by omega) rfl ?_
            refine e_aload_n (i := 0) 106 dX12_feed_105 rfl rfl rfl ?_
            refine e_dup 107 dX12_feed_106 rfl rfl ?_
            refine e_geti (j := 5) 110 fl_12_79 dX12_feed_107 at_928 (by decide) rfl rfl (fun r107 => ?_)
            simp (disch := omega) only [jset_k, jset_j, jset_same, true_and, and_true, rFd_fed] at r107 ⊢
            refine e_iconst 111 dX12_feed_110 rfl ?_
            refine e_iadd 112 dX12_feed_111 rfl ?_
            refine e_puti (j := 5) 115 fl_12_79 dX12_feed_112 at_928 rfl rfl rfl (by omega) rfl ?_
            refine e_iinc (lsn := [(6, _), (7, _), (0, _), (1, _), (2, _), (3, _), (4, _), (5, _)]) 118 dX12_feed_115 rfl (by decide) rfl rfl ?_
            refine e_goto 24 dX12_feed_118 (by decide) ?_
            refine e_ls (ls2 := [(0, _), (1, _), (2, _), (3, _), (4, _), (5, _), (6, _)]) rfl ?_
            rw [rFd_s h0 rfl]
            exact ih (ii + 1) (by omega) (by omega)
        · skip
          refine e_iload_n (i := 2) 49 dX12_feed_48 rfl rfl rfl ?_
          refine e_goto 77 dX12_feed_49 (by decide) ?_
          refine e_eqst (st2 := [jI (selV a b c d e ii)]) (by unfold selV; repeat (first | rw [if_pos (by omega)] | rw [if_neg (by omega)])) ?_
          refine e_istore (lsn := [(7, _), (0, _), (1, _), (2, _), (3, _), (4, _), (5, _), (6, _)]) 79 dX12_feed_77 (by decide) rfl rfl ?_
          refine e_aload_n (i := 0) 80 dX12_feed_79 rfl rfl rfl ?_
          refine e_getr (j := 3) 83 fl_12_21 dX12_feed_80 at_928 rfl rfl tp_928_3 rfl ?_
          refine e_aload_n (i := 0) 84 dX12_feed_83 rfl rfl rfl ?_
          refine e_geti (j := 5) 87 fl_12_79 dX12_feed_84 at_928 (by decide) rfl rfl (fun r84 => ?_)
          simp (disch := omega) only [jset_k, jset_j, jset_same, true_and, and_true, rFd_fed] at r84 ⊢
          refine e_iload 89 dX12_feed_87 rfl rfl ?_
          refine e_bipush 91 dX12_feed_89 (by decide) rfl ?_
          refine e_bipush 93 dX12_feed_91 (by decide) rfl ?_
          refine e_iload 95 dX12_feed_93 rfl rfl ?_
          refine e_iconst 96 dX12_feed_95 rfl ?_
          refine e_irem 97 dX12_feed_96 (by omega) (by decide) (by decide) rfl ?_
          rw [et]
          refine e_imul 98 dX12_feed_97 rfl ?_
          refine e_isub 99 dX12_feed_98 rfl ?_
          refine e_ishr 100 dX12_feed_99 rfl ?_
          refine e_sipush 103 dX12_feed_100 (by decide) rfl ?_
          refine e_iand 104 dX12_feed_103 rfl ?_
          have bq := (byte_eq a b c d e ii).2
          have bs : jand (jshr (selV a b c d e ii) (24 - 8 * (ii % 4))) 255 = rByte a b c d e ii := rfl
          rw [bs]
          refine e_iast 105 dX12_feed_104 ar_931 (by omega) (by omega) (by omega) rfl ?_
          refine e_aload_n (i := 0) 106 dX12_feed_105 rfl rfl rfl ?_
          refine e_dup 107 dX12_feed_106 rfl rfl ?_
          refine e_geti (j := 5) 110 fl_12_79 dX12_feed_107 at_928 (by decide) rfl rfl (fun r107 => ?_)
          simp (disch := omega) only [jset_k, jset_j, jset_same, true_and, and_true, rFd_fed] at r107 ⊢
          refine e_iconst 111 dX12_feed_110 rfl ?_
          refine e_iadd 112 dX12_feed_111 rfl ?_
          refine e_puti (j := 5) 115 fl_12_79 dX12_feed_112 at_928 rfl rfl rfl (by omega) rfl ?_
          refine e_iinc (lsn := [(6, _), (7, _), (0, _), (1, _), (2, _), (3, _), (4, _), (5, _)]) 118 dX12_feed_115 rfl (by decide) rfl rfl ?_
          refine e_goto 24 dX12_feed_118 (by decide) ?_
          refine e_ls (ls2 := [(0, _), (1, _), (2, _), (3, _), (4, _), (5, _), (6, _)]) rfl ?_
          rw [rFd_s h0 rfl]
          exact ih (ii + 1) (by omega) (by omega)
      · skip
        refine e_iload_n (i := 1) 38 dX12_feed_37 rfl rfl rfl ?_
        refine e_goto 77 dX12_feed_38 (by decide) ?_
        refine e_eqst (st2 := [jI (selV a b c d e ii)]) (by unfold selV; repeat (first | rw [if_pos (by omega)] | rw [if_neg (by omega)])) ?_
        refine e_istore (lsn := [(7, _), (0, _), (1, _), (2, _), (3, _), (4, _), (5, _), (6, _)]) 79 dX12_feed_77 (by decide) rfl rfl ?_
        refine e_aload_n (i := 0) 80 dX12_feed_79 rfl rfl rfl ?_
        refine e_getr (j := 3) 83 fl_12_21 dX12_feed_80 at_928 rfl rfl tp_928_3 rfl ?_
        refine e_aload_n (i := 0) 84 dX12_feed_83 rfl rfl rfl ?_
        refine e_geti (j := 5) 87 fl_12_79 dX12_feed_84 at_928 (by decide) rfl rfl (fun r84 => ?_)
        simp (disch := omega) only [jset_k, jset_j, jset_same, true_and, and_true, rFd_fed] at r84 ⊢
        refine e_iload 89 dX12_feed_87 rfl rfl ?_
        refine e_bipush 91 dX12_feed_89 (by decide) rfl ?_
        refine e_bipush 93 dX12_feed_91 (by decide) rfl ?_
        refine e_iload 95 dX12_feed_93 rfl rfl ?_
        refine e_iconst 96 dX12_feed_95 rfl ?_
        refine e_irem 97 dX12_feed_96 (by omega) (by decide) (by decide) rfl ?_
        rw [et]
        refine e_imul 98 dX12_feed_97 rfl ?_
        refine e_isub 99 dX12_feed_98 rfl ?_
        refine e_ishr 100 dX12_feed_99 rfl ?_
        refine e_sipush 103 dX12_feed_100 (by decide) rfl ?_
        refine e_iand 104 dX12_feed_103 rfl ?_
        have bq := (byte_eq a b c d e ii).2
        have bs : jand (jshr (selV a b c d e ii) (24 - 8 * (ii % 4))) 255 = rByte a b c d e ii := rfl
        rw [bs]
        refine e_iast 105 dX12_feed_104 ar_931 (by omega) (by omega) (by omega) rfl ?_
        refine e_aload_n (i := 0) 106 dX12_feed_105 rfl rfl rfl ?_
        refine e_dup 107 dX12_feed_106 rfl rfl ?_
        refine e_geti (j := 5) 110 fl_12_79 dX12_feed_107 at_928 (by decide) rfl rfl (fun r107 => ?_)
        simp (disch := omega) only [jset_k, jset_j, jset_same, true_and, and_true, rFd_fed] at r107 ⊢
        refine e_iconst 111 dX12_feed_110 rfl ?_
        refine e_iadd 112 dX12_feed_111 rfl ?_
        refine e_puti (j := 5) 115 fl_12_79 dX12_feed_112 at_928 rfl rfl rfl (by omega) rfl ?_
        refine e_iinc (lsn := [(6, _), (7, _), (0, _), (1, _), (2, _), (3, _), (4, _), (5, _)]) 118 dX12_feed_115 rfl (by decide) rfl rfl ?_
        refine e_goto 24 dX12_feed_118 (by decide) ?_
        refine e_ls (ls2 := [(0, _), (1, _), (2, _), (3, _), (4, _), (5, _), (6, _)]) rfl ?_
        rw [rFd_s h0 rfl]
        exact ih (ii + 1) (by omega) (by omega)

theorem m_feed {a b c d e : Int} {M : jM} {Q : Int → jM → Prop} (ht0 : M 928 0 = 0) (ht : 0 ≤ M 928 5 ∧ M 928 5 ≤ 400) (h4 : 380 < M 928 5 → Q (-4) M) (h0 : M 928 5 ≤ 380 → Q (M 928 5 + 20) (rFd M (rByte a b c d e) 20)) : jCt yX12_feed cX12_feed 8 (some .int) 1 [jR 928, jI a, jI b, jI c, jI d, jI e] M Q := by
  refine jCt_of mt_yX12_feed (Nat.le_of_ble_eq_true rfl) (fun X => ?_)
  refine e_aload_n (i := 0) 1 dX12_feed_0 rfl rfl rfl ?_
  refine e_iconst 2 dX12_feed_1 rfl ?_
  refine e_put0 (j := 0) 5 fl_12_1 dX12_feed_2 at_928 rfl rfl rfl (by decide) ht0 rfl ?_
  refine e_aload_n (i := 0) 6 dX12_feed_5 rfl rfl rfl ?_
  refine e_geti (j := 5) 9 fl_12_79 dX12_feed_6 at_928 (by decide) rfl rfl (fun r6 => ?_)
  refine e_bipush 11 dX12_feed_9 (by decide) rfl ?_
  refine e_iadd 12 dX12_feed_11 rfl ?_
  refine e_sipush 15 dX12_feed_12 (by decide) rfl ?_
  refine e_icmp_le 18 21 dX12_feed_15 (by omega) (by decide) (by decide) rfl (fun b15 => ?_) (fun b15 => ?_)
  · skip
    refine e_iconst 22 dX12_feed_21 rfl ?_
    refine e_istore (lsn := [(6, _), (0, _), (1, _), (2, _), (3, _), (4, _), (5, _)]) 24 dX12_feed_22 (by decide) rfl rfl ?_
    refine e_ls (ls2 := [(0, _), (1, _), (2, _), (3, _), (4, _), (5, _), (6, _)]) rfl ?_
    refine Eq.subst (motive := fun x => jE X yX12_feed cX12_feed 8 (some .int) 1 Q x 24 [(0, jR 928), (1, jI a), (2, jI b), (3, jI c), (4, jI d), (5, jI e), (6, jI 0)] []) (rFd_0 (f := (rByte a b c d e))) ?_
    exact lm_feed (by omega) (h0 (by omega)) 20 0 (by omega) (by omega)
  · skip
    refine e_bipush 20 dX12_feed_18 (by decide) rfl ?_
    refine e_iret dX12_feed_20 ?_
    exact h4 (by omega)

theorem p_feed {M : jM} (hI : Inv M) {a : Int} (ha : -2147483648 ≤ a ∧ a ≤ 2147483647) {b : Int} (hb : -2147483648 ≤ b ∧ b ≤ 2147483647) {c : Int} (hc : -2147483648 ≤ c ∧ c ≤ 2147483647) {d : Int} (hd : -2147483648 ≤ d ∧ d ≤ 2147483647) {e : Int} (he : -2147483648 ≤ e ∧ e ≤ 2147483647) : jCt yX11_feed cX11_feed 7 (some .int) 2 [jR 0, jI a, jI b, jI c, jI d, jI e] M (fun z M1 => jCt yX12_feed cX12_feed 8 (some .int) 1 [jR 928, jI a, jI b, jI c, jI d, jI e] M1 (fun z2 M2 => z = z2 ∧ Inv M2)) := by
  have hT := hI.2.2.2.1
  unfold ITape at hT
  refine c_feed (by omega) (fun w => ?_) (fun w => ?_)
  · exact m_feed hI.1 (by omega) (fun _ => ⟨rfl, hI⟩) (fun w2 => by omega)
  · have c1 : ∀ k j, k ≠ 884 → k ≠ 883 → cFd M (cByte a b c d e) 20 k j = M k j := fun k j x y => by
      unfold cFd
      rw [if_neg (fun q => x q.1), if_neg (fun q => y q.1)]
    refine m_feed (by rw [c1 _ _ (by omega) (by omega)]; exact hI.1) (by rw [c1 _ _ (by omega) (by omega)]; omega) (fun w2 => by rw [c1 _ _ (by omega) (by omega)] at w2; omega) (fun w2 => ⟨by rw [c1 _ _ (by omega) (by omega)]; omega, ?_⟩)
    have c2 : cFd M (cByte a b c d e) 20 928 5 = M 928 5 := c1 _ _ (by omega) (by omega)
    have r1 : ∀ k j, k ≠ 884 → k ≠ 883 → k ≠ 931 → (k = 928 → j ≠ 5) → rFd (cFd M (cByte a b c d e) 20) (rByte a b c d e) 20 k j = M k j := fun k j x y z u => by
      rw [← c1 k j x y]
      unfold rFd
      rw [if_neg (fun q => z q.1), if_neg (fun q => u q.1 q.2)]
    have r2 : rFd (cFd M (cByte a b c d e) 20) (rByte a b c d e) 20 928 5 = M 928 5 + 20 := by rw [rFd_fed, c2]
    have r3 : rFd (cFd M (cByte a b c d e) 20) (rByte a b c d e) 20 883 1 = M 883 1 + 20 := by
      rw [← cFd_fed (M := M) (f := cByte a b c d e) (n := 20)]
      unfold rFd
      rw [if_neg (by omega), if_neg (by omega)]
    have r4 : ∀ j, rFd (cFd M (cByte a b c d e) 20) (rByte a b c d e) 20 931 j = if M 928 5 ≤ j ∧ j < M 928 5 + 20 then rByte a b c d e (j - M 928 5) else M 931 j := fun j => by
      unfold rFd
      rw [c2]
      by_cases q : M 928 5 ≤ j ∧ j < M 928 5 + 20
      · rw [if_pos ⟨rfl, q⟩, if_pos q]
      · rw [if_neg (fun z => q z.2), if_neg (by omega), if_neg q, c1 _ _ (by omega) (by omega)]
    have r5 : ∀ j, rFd (cFd M (cByte a b c d e) 20) (rByte a b c d e) 20 884 j = if M 883 1 ≤ j ∧ j < M 883 1 + 20 then cByte a b c d e (j - M 883 1) else M 884 j := fun j => by
      unfold rFd
      rw [if_neg (by omega), if_neg (by omega)]
      unfold cFd
      by_cases q : M 883 1 ≤ j ∧ j < M 883 1 + 20
      · rw [if_pos ⟨rfl, q⟩, if_pos q]
      · rw [if_neg (fun z => q z.2), if_neg (by omega), if_neg q]
    generalize rFd (cFd M (cByte a b c d e) 20) (rByte a b c d e) 20 = M2 at *
    have e9 : M2 929 = M 929 := funext fun j => r1 929 j (by omega) (by omega) (by omega) (by omega)
    obtain ⟨h1, h2, h3, -, h5, h6, h7⟩ := hI
    refine ⟨by rw [r1 _ _ (by omega) (by omega) (by omega) (by omega)]; exact h1, by rw [e9]; exact h2, ?_, ?_, ?_, ?_, ?_⟩
    · rw [e9]
      exact h3.fr h2 (fun k j u v => r1 (1 + k) j (by omega) (by omega) (by omega) (by omega)) (fun i _ _ => rfl)
    · refine ⟨by rw [r2, r3]; omega, by rw [r2]; omega, fun i i0 i1 => ?_⟩
      rw [r2] at i1
      rw [r4, r5, ← hT.1]
      by_cases q : M 883 1 ≤ i ∧ i < M 883 1 + 20
      · rw [if_pos q, if_pos q]
        have z := byte_eq a b c d e (i - M 883 1)
        exact ⟨z.2, z.1⟩
      · rw [if_neg q, if_neg q]
        exact hT.2.2 i i0 (by omega)
    · unfold IFault at h5 ⊢
      rw [r1 882 4 (by omega) (by omega) (by omega) (by omega), r1 882 5 (by omega) (by omega) (by omega) (by omega), r1 928 16 (by omega) (by omega) (by omega) (by omega), r1 928 17 (by omega) (by omega) (by omega) (by omega), r1 891 0 (by omega) (by omega) (by omega) (by omega)]
      exact h5
    · intro r r0 r1'
      have h8 := h6 r r0 r1'
      have hr := fun k j (x : 895 ≤ k) (y : k ≠ 928) (z : k ≠ 931) => r1 k j (by omega) (by omega) z (fun u => absurd u y)
      rw [hr (895 + 2 * r) _ (by omega) (by omega) (by omega), hr 946 _ (by omega) (by omega) (by omega), hr 947 _ (by omega) (by omega) (by omega), hr (895 + 2 * r) _ (by omega) (by omega) (by omega)]
      refine h8.imp id (fun h => ⟨h.1, h.2.1, h.2.2.1, h.2.2.2.1, fun x x0 x1 => ?_⟩)
      rw [hr (896 + 2 * r) _ (by omega) (by omega) (by omega), hr 948 _ (by omega) (by omega) (by omega)]
      exact h.2.2.2.2 x x0 x1
    · intro q q0 q1
      have h8 := h7 q q0 q1
      rw [r1 881 q (by omega) (by omega) (by omega) (by omega), r1 930 q (by omega) (by omega) (by omega) (by omega)]
      refine ⟨h8.1, h8.2.1, fun h9 => ?_⟩
      have h10 := h8.2.2 h9
      have ea : av M2 (3920 * (q + 1)) = av M (3920 * (q + 1)) := by
        unfold av
        rw [e9]
      rw [ea]
      exact ⟨h10.1, h10.2.fr h10.1 (fun k j u v => r1 _ j (by omega) (by omega) (by omega) (by omega)) (fun i _ _ => rfl)⟩

theorem lm_other {X : jX} {M : jM} {Q : Int → jM → Prop} (h : jE X yX12_other cX12_other 2 (some .int) 1 Q (rCp M 32 0 32) 34 [(0, jR 928)] []) : ∀ (f : Nat) (ii : Int), 0 ≤ ii → ii + f = 32 → jE X yX12_other cX12_other 2 (some .int) 1 Q (rCp M 32 0 ii) 7 [(0, jR 928), (1, jI ii)] [] := by
  intro f
  induction f with
  | zero =>
    intro ii h0 hi2
    have e : ii = 32 := by omega
    subst e
    refine e_iload_n (i := 1) 8 dX12_other_7 rfl rfl rfl ?_
    refine e_bipush 10 dX12_other_8 (by decide) rfl ?_
    refine e_icmp_ge 13 34 dX12_other_10 (by omega) (by decide) (by decide) rfl (fun b10 => ?_) (fun b10 => ?_)
    · skip
      refine e_ls (ls2 := [(0, _)]) rfl ?_
      exact h
    · omega
  | succ f ih =>
    intro ii h0 hi2
    refine e_iload_n (i := 1) 8 dX12_other_7 rfl rfl rfl ?_
    refine e_bipush 10 dX12_other_8 (by decide) rfl ?_
    refine e_icmp_ge 13 34 dX12_other_10 (by omega) (by decide) (by decide) rfl (fun b10 => ?_) (fun b10 => ?_)
    · omega
    · skip
      refine e_aload_n (i := 0) 14 dX12_other_13 rfl rfl rfl ?_
      refine e_getr (j := 1) 17 fl_12_13 dX12_other_14 at_928 rfl rfl tp_928_1 rfl ?_
      refine e_bipush 19 dX12_other_17 (by decide) rfl ?_
      refine e_iload_n (i := 1) 20 dX12_other_19 rfl rfl rfl ?_
      refine e_iadd 21 dX12_other_20 rfl ?_
      refine e_aload_n (i := 0) 22 dX12_other_21 rfl rfl rfl ?_
      refine e_getr (j := 1) 25 fl_12_13 dX12_other_22 at_928 rfl rfl tp_928_1 rfl ?_
      refine e_iload_n (i := 1) 26 dX12_other_25 rfl rfl rfl ?_
      refine e_iald 27 dX12_other_26 ar_929 (by omega) (by omega) rfl (fun r26 => ?_)
      rw [rCp_out (by omega)] at r26 ⊢
      refine e_iast 28 dX12_other_27 ar_929 (by omega) (by omega) (by omega) rfl ?_
      refine e_iinc (lsn := [(1, _), (0, _)]) 31 dX12_other_28 rfl (by decide) rfl rfl ?_
      refine e_goto 7 dX12_other_31 (by decide) ?_
      refine e_ls (ls2 := [(0, _), (1, _)]) rfl ?_
      have e := rCp_s (M := M) (dst := 32) (src := 0) (n := ii) h0 (by omega) (by omega)
      rw [Int.zero_add] at e
      rw [e]
      exact ih (ii + 1) (by omega) (by omega)

theorem m_other {M : jM} {Q : Int → jM → Prop} (ht : M 928 0 = 0) (h : Q 0 (jset (rCp M 32 0 32) 929 64 1)) : jCt yX12_other cX12_other 2 (some .int) 1 [jR 928] M Q := by
  refine jCt_of mt_yX12_other (Nat.le_of_ble_eq_true rfl) (fun X => ?_)
  refine e_aload_n (i := 0) 1 dX12_other_0 rfl rfl rfl ?_
  refine e_iconst 2 dX12_other_1 rfl ?_
  refine e_put0 (j := 0) 5 fl_12_1 dX12_other_2 at_928 rfl rfl rfl (by decide) ht rfl ?_
  refine e_iconst 6 dX12_other_5 rfl ?_
  refine e_istore_n (i := 1) (lsn := [(1, _), (0, _)]) 7 dX12_other_6 rfl (by decide) rfl rfl ?_
  refine e_ls (ls2 := [(0, _), (1, _)]) rfl ?_
  refine Eq.subst (motive := fun x => jE X yX12_other cX12_other 2 (some .int) 1 Q x 7 [(0, jR 928), (1, jI 0)] []) (rCp_0 (dst := 32) (src := 0)) (lm_other ?_ 32 0 (by omega) (by omega))
  refine e_aload_n (i := 0) 35 dX12_other_34 rfl rfl rfl ?_
  refine e_getr (j := 1) 38 fl_12_13 dX12_other_35 at_928 rfl rfl tp_928_1 rfl ?_
  refine e_bipush 40 dX12_other_38 (by decide) rfl ?_
  refine e_iconst 41 dX12_other_40 rfl ?_
  refine e_iast 42 dX12_other_41 ar_929 (by decide) (by decide) (by decide) rfl ?_
  refine e_iconst 43 dX12_other_42 rfl ?_
  refine e_iret dX12_other_43 ?_
  exact h

theorem c_other {M : jM} {Q : Int → jM → Prop} (h : Q 0 (jset (mv M (RLw 7) 5) 1 2 1)) : jCt yX11_other cX11_other 1 (some .int) 2 [jR 0] M Q := by
  refine jCt_of mt_yX11_other (Nat.le_of_ble_eq_true rfl) (fun X => ?_)
  refine e_aload_n (i := 0) 1 dX11_other_0 rfl rfl rfl ?_
  refine e_getr (j := 0) 4 fl_11_10 dX11_other_1 at_0 rfl rfl tp_0_0 rfl ?_
  refine e_getr (j := 1) 7 fl_11_102 dX11_other_4 at_1 rfl rfl tp_1_1 rfl ?_
  refine e_aload_n (i := 0) 8 dX11_other_7 rfl rfl rfl ?_
  refine e_getr (j := 0) 11 fl_11_10 dX11_other_8 at_0 rfl rfl tp_0_0 rfl ?_
  refine e_getr (j := 0) 14 fl_11_73 dX11_other_11 at_1 rfl rfl tp_1_0 rfl ?_
  refine e_callV 17 mt_yX1_copyFrom mv_yX1_copyFrom wd_703 (by decide) dX11_other_14 at_7 jc_1 rfl rfl rfl (Nat.le_of_ble_eq_true rfl) (jroom (by decide)) rfl (c_LawCp lw_7 lw_2 (by omega) ?_)
  dsimp only [jpush]
  refine e_aload_n (i := 0) 18 dX11_other_17 rfl rfl rfl ?_
  refine e_getr (j := 0) 21 fl_11_10 dX11_other_18 at_0 rfl rfl tp_0_0 rfl ?_
  refine e_iconst 22 dX11_other_21 rfl ?_
  refine e_putz (j := 2) 25 fl_11_105 dX11_other_22 at_1 rfl rfl rfl (by decide) rfl ?_
  refine e_iconst 26 dX11_other_25 rfl ?_
  refine e_iret dX11_other_26 ?_
  exact h

theorem p_other {M : jM} (hI : Inv M) : jCt yX11_other cX11_other 1 (some .int) 2 [jR 0] M (fun z M1 => jCt yX12_other cX12_other 2 (some .int) 1 [jR 928] M1 (fun z2 M2 => z = z2 ∧ Inv M2)) := by
  have hC := hI.cr
  have hn := hC.cnt
  have hg := hC.rng
  refine c_other ?_
  have c1 : ∀ k j, (k < 7 ∨ 12 ≤ k) → k ≠ 1 → jset (mv M (RLw 7) 5) 1 2 1 k j = M k j := fun k j x y => by rw [jset_k y, mvLw_out (by omega)]
  refine m_other (by rw [c1 _ _ (by omega) (by omega)]; exact hI.1) ⟨rfl, ?_⟩
  have e1 : ∀ k j, (k < 7 ∨ 12 ≤ k) → k ≠ 1 → k ≠ 929 → jset (rCp (jset (mv M (RLw 7) 5) 1 2 1) 32 0 32) 929 64 1 k j = M k j := fun k j x y z => by
    rw [jset_k z, rCp_out (Or.inl z), c1 k j x y]
  have e2 : ∀ j, j ≠ 2 → jset (rCp (jset (mv M (RLw 7) 5) 1 2 1) 32 0 32) 929 64 1 1 j = M 1 j := fun j x => by
    rw [jset_k (by omega), rCp_out (by omega), jset_j x, mvLw_out (by omega)]
  have e3 : jset (rCp (jset (mv M (RLw 7) 5) 1 2 1) 32 0 32) 929 64 1 1 2 = 1 := by
    rw [jset_k (by omega), rCp_out (by omega), jset_same]
  have e4 : ∀ j, (j < 32 ∨ 64 < j) → jset (rCp (jset (mv M (RLw 7) 5) 1 2 1) 32 0 32) 929 64 1 929 j = M 929 j := fun j x => by
    rw [jset_j (by omega), rCp_out (by omega), c1 _ _ (by omega) (by omega)]
  have e5 : jset (rCp (jset (mv M (RLw 7) 5) 1 2 1) 32 0 32) 929 64 1 929 64 = 1 := jset_same
  have e6 : ∀ j, 0 ≤ j → j < 32 → jset (rCp (jset (mv M (RLw 7) 5) 1 2 1) 32 0 32) 929 64 1 929 (32 + j) = M 929 j := fun j x y => by
    rw [jset_j (by omega), rCp_in (by omega) (by omega), show 32 + j - 32 + 0 = j by omega, c1 _ _ (by omega) (by omega)]
  have e7 : ∀ k j, RLw 7 k j → jset (rCp (jset (mv M (RLw 7) 5) 1 2 1) 32 0 32) 929 64 1 k j = M (k - 5) j := fun k j x => by
    have y : 7 ≤ k ∧ k < 12 := by
      unfold RLw at x
      omega
    rw [jset_k (by omega), rCp_out (by omega), jset_k (by omega), mv_in x]
  generalize jset (rCp (jset (mv M (RLw 7) 5) 1 2 1) 32 0 32) 929 64 1 = M2 at *
  have hl := hC.law
  have hr := hC.rlaw
  have hr1 := hr.1
  refine hI.live (fun k j a b c d => ?_) ⟨?_, ?_, ?_, ?_, ?_, ?_, ?_, ?_, ?_, ?_, ?_⟩ ⟨?_, ?_, ?_, ?_, ?_, ?_, ?_, ?_, ?_, ?_, ?_, ?_⟩
  · by_cases e : k = 929
    · rw [e, e4 j (by omega)]
    · exact e1 k j (by omega) (by omega) e
  · have h := hI.2.1.1
    unfold RCnt at h ⊢
    rw [e4 582 (by omega), e4 643 (by omega), e4 709 (by omega), e4 1310 (by omega), e4 1761 (by omega), e4 3895 (by omega), e4 708 (by omega), e4 3608 (by omega), e5]
    omega
  · exact hI.2.1.2.1.fr (fun i a b => e4 _ (by omega))
  · exact hI.2.1.2.1.fr (o2 := 32) (fun i a b => by rw [Int.zero_add]; exact e6 i a (by omega))
  · exact hI.2.1.2.2.2.1.fr (by omega) (fun i a b => e4 _ (by omega))
  · exact hI.2.1.2.2.2.2.1.fr (by omega) (fun i a b => e4 _ (by omega)) (fun i a b => e4 _ (by omega))
  · exact hI.2.1.2.2.2.2.2.1.fr (by omega) (fun i a b => e4 _ (by omega)) (fun i a b => e4 _ (by omega)) (by rw [e4 582 (by omega), e4 643 (by omega), e4 1761 (by omega)]; omega)
  · exact hI.2.1.2.2.2.2.2.2.1.fr (by omega) (e4 _ (by omega)) (fun i a b => e4 _ (by omega))
  · exact hI.2.1.2.2.2.2.2.2.2.1.fr (by omega) (fun i a b => e4 _ (by omega)) (fun i a b => e4 _ (by omega)) (by rw [e4 709 (by omega), e4 643 (by omega)]; omega)
  · exact hI.2.1.2.2.2.2.2.2.2.2.1.fr (by omega) (fun i a b => e4 _ (by omega))
  · exact hI.2.1.2.2.2.2.2.2.2.2.2.1.fr (fun i a b => e4 _ (by omega))
  · exact hI.2.1.2.2.2.2.2.2.2.2.2.2.fr (fun i a b => e4 _ (by omega))
  · unfold CCnt cv
    simp only [Int.reduceAdd]
    rw [e2 6 (by omega), e2 8 (by omega), e2 10 (by omega), e2 12 (by omega), e2 14 (by omega), e2 19 (by omega), e2 4 (by omega), e2 17 (by omega), e3, e4 582 (by omega), e4 643 (by omega), e4 709 (by omega), e4 1310 (by omega), e4 1761 (by omega), e4 3895 (by omega), e4 708 (by omega), e4 3608 (by omega), e5]
    omega
  · exact hI.2.2.1.2.1.fr hI.2.1.2.1 (by omega) (fun k j a b => e1 (1 + k) j (by omega) (by omega) (by omega)) (fun i a b => e4 _ (by omega))
  · have z0 : M2 929 32 = M 929 0 := e6 0 (by omega) (by omega)
    have z31 : M2 929 63 = M 929 31 := e6 31 (by omega) (by omega)
    refine ⟨?_, ?_, fun i a b => ?_, fun i a b => ?_⟩
    · show M2 (1 + 6) 0 = _
      rw [show (1 : Int) + 6 = 7 by omega, e7 7 0 (by unfold RLw; omega), z0]
      exact hl.1
    · show M2 (1 + 6) 5 = M2 929 (32 + 31)
      rw [show (1 : Int) + 6 = 7 by omega, show (32 : Int) + 31 = 63 by omega, e7 7 5 (by unfold RLw; omega), z31]
      exact hl.2.1
    · rw [z0] at b
      show M2 (1 + (6 + 1)) i = _ ∧ M2 (1 + (6 + 2)) i = _ ∧ M2 (1 + (6 + 3)) i = _
      rw [show (1 : Int) + (6 + 1) = 8 by omega, show (1 : Int) + (6 + 2) = 9 by omega, show (1 : Int) + (6 + 3) = 10 by omega, e7 8 i (by unfold RLw; omega), e7 9 i (by unfold RLw; omega), e7 10 i (by unfold RLw; omega), show 32 + 1 + i = 32 + (1 + i) by omega, show 32 + 9 + i = 32 + (9 + i) by omega, show 32 + 17 + i = 32 + (17 + i) by omega, e6 (1 + i) (by omega) (by omega), e6 (9 + i) (by omega) (by omega), e6 (17 + i) (by omega) (by omega)]
      exact hl.2.2.1 i a b
    · have ei : i = 0 := by omega
      subst ei
      show M2 (1 + (6 + 4)) 0 = _
      rw [show (1 : Int) + (6 + 4) = 11 by omega, e7 11 0 (by unfold RLw; omega), show (32 : Int) + 25 + 0 = 32 + 25 by omega, e6 25 (by omega) (by omega)]
      exact hl.2.2.2 0 (by omega) (by omega)
  · exact hI.2.2.1.2.2.2.1.fr (by omega) (fun k j a b => e1 (1 + k) j (by omega) (by omega) (by omega)) (fun i a b => e4 _ (by omega))
  · exact hI.2.2.1.2.2.2.2.1.fr (by omega) (fun k j a b => e1 (1 + k) j (by omega) (by omega) (by omega)) (fun i a b => e4 _ (by omega)) (fun i a b => e4 _ (by omega))
  · exact hI.2.2.1.2.2.2.2.2.1.fr (by omega) (fun k j a b => e1 (1 + k) j (by omega) (by omega) (by omega)) (fun i a b => e4 _ (by omega)) (fun i a b => e4 _ (by omega))
  · exact hI.2.2.1.2.2.2.2.2.2.1.fr (by omega) (fun k j a b => e1 (1 + k) j (by omega) (by omega) (by omega)) (fun i a b => e4 _ (by omega)) (fun i a b => e4 _ (by omega))
  · exact hI.2.2.1.2.2.2.2.2.2.2.1.fr (by omega) (fun k j a b => e1 (1 + k) j (by omega) (by omega) (by omega)) (fun i a b => e4 _ (by omega))
  · exact hI.2.2.1.2.2.2.2.2.2.2.2.1.fr (fun k j a b => e1 (1 + k) j (by omega) (by omega) (by omega)) (fun i a b => e4 _ (by omega))
  · exact hI.2.2.1.2.2.2.2.2.2.2.2.2.1.fr (fun k j a b => e1 (1 + k) j (by omega) (by omega) (by omega)) (fun i a b => e4 _ (by omega))
  · exact hI.2.2.1.2.2.2.2.2.2.2.2.2.2.1.fr (by omega) (fun k j a b => e1 (1 + k) j (by omega) (by omega) (by omega)) (fun i a b => e4 _ (by omega))
  · exact hI.2.2.1.2.2.2.2.2.2.2.2.2.2.2.fr hI.2.1.2.2.2.2.2.2.2.2.2.2 (fun k j a b => e1 (1 + k) j (by omega) (by omega) (by omega)) (fun i a b => e4 _ (by omega))

