/-! TEXTS *** looks, one by one; the reference -/
def pK1 (t : Int → Int) (n : Int) (s : PS) : PS := pMust t n 10 (pNext t n s)
def pK2 (t : Int → Int) (n : Int) (s : PS) : PS := ((pK1 t n s).1, (pK1 t n s).2.1, (pK1 t n s).2.2.1, (pK1 t n s).2.2.2.1, (pK1 t n s).2.2.2.2.1, (pK1 t n s).2.2.2.2.2.1, (pK1 t n s).2.2.2.2.2.2.1, (pK1 t n s).2.2.2.2.2.2.2.1, (pK1 t n s).2.2.2.2.2.2.2.2.1, upd1 (pK1 t n s).2.2.2.2.2.2.2.2.2 (66 + s.2.2.2.2.2.2.2.2.2 65) (pK1 t n s).2.2.2.2.2.2.2.1)
def pK3 (t : Int → Int) (n : Int) (s : PS) : PS := prs t n 2010 4 (pK2 t n s)
def pK4 (t : Int → Int) (n : Int) (s : PS) : PS := ((pK3 t n s).1, (pK3 t n s).2.1, (pK3 t n s).2.2.1, (pK3 t n s).2.2.2.1, (pK3 t n s).2.2.2.2.1, (pK3 t n s).2.2.2.2.2.1, (pK3 t n s).2.2.2.2.2.2.1, (pK3 t n s).2.2.2.2.2.2.2.1, (pK3 t n s).2.2.2.2.2.2.2.2.1, upd1 (pK3 t n s).2.2.2.2.2.2.2.2.2 (74 + s.2.2.2.2.2.2.2.2.2 65) (pK3 t n s).2.2.2.2.2.2.2.1)
def pK5 (t : Int → Int) (n : Int) (s : PS) : PS := pMust t n 22 (pK4 t n s)
def pK6 (t : Int → Int) (n : Int) (s : PS) : PS := ((pK5 t n s).1, (pK5 t n s).2.1, (pK5 t n s).2.2.1, (pK5 t n s).2.2.2.1, (pK5 t n s).2.2.2.2.1, (pK5 t n s).2.2.2.2.2.1, (pK5 t n s).2.2.2.2.2.2.1, (pK5 t n s).2.2.2.2.2.2.2.1, (pK5 t n s).2.2.2.2.2.2.2.2.1, upd1 (pK5 t n s).2.2.2.2.2.2.2.2.2 65 ((pK5 t n s).2.2.2.2.2.2.2.2.2 65 + 1))
def pLook (t : Int → Int) (n : Int) (s : PS) : PS := if s.2.2.1 ≠ 9 then pFail 2 s else if s.2.2.2.2.2.2.2.2.2 65 = 8 then pFail 4 s else pK6 t n s
section
variable {M : jM} {n : Int} {s z : PS}
theorem pi_set {i v : Int} (h : PI n s) (hi : 66 ≤ i) : PI n (s.1, s.2.1, s.2.2.1, s.2.2.2.1, s.2.2.2.2.1, s.2.2.2.2.2.1, s.2.2.2.2.2.2.1, s.2.2.2.2.2.2.2.1, s.2.2.2.2.2.2.2.2.1, upd1 s.2.2.2.2.2.2.2.2.2 i v) := by
  obtain ⟨h1, h2, h3, h4, h5, h6, h7, h8, h9, h10⟩ := h
  have f : ∀ j : Int, j < 66 → upd1 s.2.2.2.2.2.2.2.2.2 i v j = s.2.2.2.2.2.2.2.2.2 j := fun j hj => u2 (by omega)
  refine ⟨h1, h2, h3, h4, h5, h6, ?_, ?_, fun j a b => ?_, ?_⟩
  · show 0 ≤ upd1 s.2.2.2.2.2.2.2.2.2 i v 0 ∧ upd1 s.2.2.2.2.2.2.2.2.2 i v 0 ≤ 8
    rw [f 0 (by omega)]
    exact h7
  · show 0 ≤ upd1 s.2.2.2.2.2.2.2.2.2 i v 65 ∧ upd1 s.2.2.2.2.2.2.2.2.2 i v 65 ≤ 8
    rw [f 65 (by omega)]
    exact h8
  · have b : j < upd1 s.2.2.2.2.2.2.2.2.2 i v 0 := b
    rw [f 0 (by omega)] at b
    show 1 ≤ upd1 s.2.2.2.2.2.2.2.2.2 i v (1 + j) ∧ upd1 s.2.2.2.2.2.2.2.2.2 i v (1 + j) ≤ 999
    rw [f (1 + j) (by omega)]
    exact h9 j a b
  · show 0 ≤ upd1 s.2.2.2.2.2.2.2.2.2 i v 31 ∧ (s.2.2.2.2.1 = 0 → upd1 s.2.2.2.2.2.2.2.2.2 i v 31 ≤ s.1) ∧ upd1 s.2.2.2.2.2.2.2.2.2 i v 31 ≤ s.1 + 1
    rw [f 31 (by omega)]
    exact h10
theorem pk_k1 (hT : RT M n) (hI : PI n s) (hw : s.2.2.2.2.1 = 0) : PK n s (pK1 (M 931) n s) ∧ s.2.1 ≤ (pK1 (M 931) n s).1 := by
  have h1 := pk_next hT hI hw
  have h2 : PK n (pNext (M 931) n s) (pK1 (M 931) n s) := pk_must hT h1.1.1
  exact ⟨h1.1.trans h2, Int.le_trans h1.2 h2.2.1⟩
theorem k2_a {i : Int} (h : i ≠ 66 + s.2.2.2.2.2.2.2.2.2 65) (hT : RT M n) (hI : PI n s) (hw : s.2.2.2.2.1 = 0) : (pK2 (M 931) n s).2.2.2.2.2.2.2.2.2 i = s.2.2.2.2.2.2.2.2.2 i := by
  have e : (pK2 (M 931) n s).2.2.2.2.2.2.2.2.2 i = (pK1 (M 931) n s).2.2.2.2.2.2.2.2.2 i := by
    unfold pK2
    dsimp only
    exact u2 h
  rw [e, (pk_k1 hT hI hw).1.pa]
theorem k2_v : (pK2 (M 931) n s).2.2.2.2.2.2.2.2.2 (66 + s.2.2.2.2.2.2.2.2.2 65) = (pK1 (M 931) n s).2.2.2.2.2.2.2.1 := by
  unfold pK2
  dsimp only
  exact u1
theorem k4_a {i : Int} (h : i ≠ 74 + s.2.2.2.2.2.2.2.2.2 65) : (pK4 (M 931) n s).2.2.2.2.2.2.2.2.2 i = (pK3 (M 931) n s).2.2.2.2.2.2.2.2.2 i := by
  unfold pK4
  dsimp only
  exact u2 h
theorem k4_v : (pK4 (M 931) n s).2.2.2.2.2.2.2.2.2 (74 + s.2.2.2.2.2.2.2.2.2 65) = (pK3 (M 931) n s).2.2.2.2.2.2.2.1 := by
  unfold pK4
  dsimp only
  exact u1
theorem k6_a {i : Int} (h : i ≠ 65) : (pK6 (M 931) n s).2.2.2.2.2.2.2.2.2 i = (pK5 (M 931) n s).2.2.2.2.2.2.2.2.2 i := by
  unfold pK6
  dsimp only
  exact u2 h
theorem k6_v : (pK6 (M 931) n s).2.2.2.2.2.2.2.2.2 65 = (pK5 (M 931) n s).2.2.2.2.2.2.2.2.2 65 + 1 := by
  unfold pK6
  dsimp only
  exact u1
theorem pi_k2 (hT : RT M n) (hI : PI n s) (hw : s.2.2.2.2.1 = 0) : PI n (pK2 (M 931) n s) := by
  have h8 := hI.2.2.2.2.2.2.2.1
  exact pi_set (pk_k1 hT hI hw).1.1 (by omega)
theorem pq_k3 (hT : RT M n) (hI : PI n s) (hw : s.2.2.2.2.1 = 0) : PQ n (pK2 (M 931) n s) (pK3 (M 931) n s) := prs_ok hT 2010 4 _ (pi_k2 hT hI hw)
theorem pi_k4 (hT : RT M n) (hI : PI n s) (hw : s.2.2.2.2.1 = 0) : PI n (pK4 (M 931) n s) := by
  have h8 := hI.2.2.2.2.2.2.2.1
  exact pi_set (pq_k3 hT hI hw).1 (by omega)
theorem pk_k5 (hT : RT M n) (hI : PI n s) (hw : s.2.2.2.2.1 = 0) : PK n (pK4 (M 931) n s) (pK5 (M 931) n s) := pk_must hT (pi_k4 hT hI hw)
theorem k5_65 (hT : RT M n) (hI : PI n s) (hw : s.2.2.2.2.1 = 0) : (pK5 (M 931) n s).2.2.2.2.2.2.2.2.2 65 = s.2.2.2.2.2.2.2.2.2 65 := by
  have h8 := hI.2.2.2.2.2.2.2.1
  have q := pq_k3 hT hI hw
  have q5 := q.1.2.2.2.2.1
  have q6 := (pi_k2 hT hI hw).2.2.2.2.1
  rw [(pk_k5 hT hI hw).pa, k4_a (by omega), q.2.2.2.2.2.1 65 (by omega), k2_a (by omega) hT hI hw]
theorem pg_look (hT : RT M n) (hI : PI n s) (hw : s.2.2.2.2.1 = 0) (hk : s.2.2.1 ≠ 25) : PI n (pLook (M 931) n s) ∧ s.1 ≤ (pLook (M 931) n s).1 ∧ ((pLook (M 931) n s).2.2.2.2.1 = 0 → s.1 + 1 ≤ (pLook (M 931) n s).1) ∧ (pLook (M 931) n s).2.2.2.2.2.2.1 = s.2.2.2.2.2.2.1 ∧ (∀ i : Int, i < 65 → (pLook (M 931) n s).2.2.2.2.2.2.2.2.2 i = s.2.2.2.2.2.2.2.2.2 i) := by
  unfold pLook
  split
  · have q := pk_fail (f := 2) (by omega) hI
    exact ⟨q.1.1, q.1.2.1, fun e => absurd e q.2, congrArg (fun z => z.1) q.1.2.2.2, fun i _ => by rw [q.1.pa]⟩
  · split
    · have q := pk_fail (f := 4) (by omega) hI
      exact ⟨q.1.1, q.1.2.1, fun e => absurd e q.2, congrArg (fun z => z.1) q.1.2.2.2, fun i _ => by rw [q.1.pa]⟩
    · have h8 := hI.2.2.2.2.2.2.2.1
      have k1 := pk_k1 hT hI hw
      have k3 := pq_k3 hT hI hw
      have k5 := pk_k5 hT hI hw
      have hb := hI.2.1.2.2.2 hk
      have e65 := k5_65 hT hI hw
      have q6 := (pi_k2 hT hI hw).2.2.2.2.1
      have p1 : s.2.1 ≤ (pK5 (M 931) n s).1 := by
        have a := k1.2
        have b : (pK1 (M 931) n s).1 ≤ (pK3 (M 931) n s).1 := k3.2.1
        have c : (pK3 (M 931) n s).1 ≤ (pK5 (M 931) n s).1 := k5.2.1
        omega
      have fa : ∀ i : Int, i < 65 → (pK6 (M 931) n s).2.2.2.2.2.2.2.2.2 i = s.2.2.2.2.2.2.2.2.2 i := fun i hi => by
        rw [k6_a (by omega), k5.pa, k4_a (by omega), k3.2.2.2.2.2.1 i (by omega), k2_a (by omega) hT hI hw]
      have fb : ∀ i : Int, i < 65 → (pK6 (M 931) n s).2.2.2.2.2.2.2.2.2 i = (pK5 (M 931) n s).2.2.2.2.2.2.2.2.2 i := fun i hi => k6_a (by omega)
      obtain ⟨h1, h2, h3, h4, h5, h6, h7, h9, h10, h11⟩ := k5.1
      refine ⟨⟨h1, h2, h3, h4, h5, h6, ?_, ?_, fun i a b => ?_, ?_⟩, ?_, fun _ => ?_, ?_, fa⟩
      · rw [fb 0 (by omega)]
        exact h7
      · rw [k6_v, e65]
        omega
      · rw [fb 0 (by omega)] at b
        rw [fb (1 + i) (by omega)]
        exact h10 i a b
      · rw [fb 31 (by omega)]
        exact h11
      · have c : (pK5 (M 931) n s).1 = (pK6 (M 931) n s).1 := rfl
        have := hI.1
        omega
      · have c : (pK5 (M 931) n s).1 = (pK6 (M 931) n s).1 := rfl
        have := hI.1
        omega
      · have a : (pK5 (M 931) n s).2.2.2.2.2.2.1 = (pK4 (M 931) n s).2.2.2.2.2.2.1 := congrArg (fun z => z.1) k5.2.2.2
        have b : (pK3 (M 931) n s).2.2.2.2.2.2.1 = (pK2 (M 931) n s).2.2.2.2.2.2.1 := k3.2.2.2.2.1
        have c : (pK1 (M 931) n s).2.2.2.2.2.2.1 = s.2.2.2.2.2.2.1 := congrArg (fun z => z.1) k1.1.2.2.2
        exact (a.trans b).trans c
end
theorem m_look {M : jM} {n : Int} {Q : Int → jM → Prop} (hT : RT M n) {s : PS} (hI : PI n s) (hw : s.2.2.2.2.1 = 0) (hk : s.2.2.1 ≠ 25) (h : Q 0 (put M (pLook (M 931) n s))) : jCt yX12_readLook cX12_readLook 2 none 36 [jR 928] (put M s) Q := by
  refine jCt_of mt_yX12_readLook (Nat.le_of_ble_eq_true rfl) (fun X => ?_)
  have hn8 := hT.1
  have hn := hT.2.1
  have q0 := hI.rng
  have w0 := hI.2.2.2.1
  have h8 := hI.2.2.2.2.2.2.2.1
  have d0 := hI.2.2.2.2.2.1
  have p2 := (pk_fail (f := 2) (by omega) hI).2
  have p4 := (pk_fail (f := 4) (by omega) hI).2
  have pp := (pk_fail (f := 4) (by omega) (pk_fail (f := 2) (by omega) hI).1.1).2
  have pa := (pk_fail (f := 2) (by omega) hI).1.pa
  have e65 := k5_65 hT hI hw
  refine e_aload_n (i := 0) 1 dX12_readLook_0 rfl rfl rfl ?_
  refine e_bipush 3 dX12_readLook_1 (by decide) rfl ?_
  refine e_callV 6 mt_yX12_is mv_yX12_is wd_1418 (by decide) dX12_readLook_3 at_928 jc_12 rfl rfl rfl (Nat.le_of_ble_eq_true rfl) (jroom (by decide)) rfl (m_is (by (try simp (disch := omega) only [put_r6, put_w6, put_r7, put_w7, put_r9, put_w9, put_r10, put_w10, put_r11, put_w11, put_r12, put_w12, put_r13, put_w13, put_r14, put_w14, put_r15, put_w15, put_ra, put_r8, put_r0, put_rt, put_wa, u1, u2, hn8]); omega) (fun w3 => ?_) (fun w3 => ?_))
  · dsimp only [jpush]
    (try simp (disch := omega) only [put_r6, put_w6, put_r7, put_w7, put_r9, put_w9, put_r10, put_w10, put_r11, put_w11, put_r12, put_w12, put_r13, put_w13, put_r14, put_w14, put_r15, put_w15, put_ra, put_r8, put_r0, put_rt, put_wa, u1, u2, hn8] at w3)
    (try simp (disch := omega) only [put_r6, put_w6, put_r7, put_w7, put_r9, put_w9, put_r10, put_w10, put_r11, put_w11, put_r12, put_w12, put_r13, put_w13, put_r14, put_w14, put_r15, put_w15, put_ra, put_r8, put_r0, put_rt, put_wa, u1, u2, hn8])
    first
     | (exfalso; omega)
     | (skip
        refine e_if_ne 9 14 dX12_readLook_6 (by decide) (by decide) rfl (fun _ => ?_) (fun h => absurd h (by decide))
        refine e_aload_n (i := 0) 15 dX12_readLook_14 rfl rfl rfl ?_
        refine e_getr (j := 4) 18 fl_12_24 dX12_readLook_15 at_928 rfl rfl tp_928_4 rfl ?_
        refine e_bipush 20 dX12_readLook_18 (by decide) rfl ?_
        refine e_iald 21 dX12_readLook_20 ar_932 (by decide) (by decide) rfl (fun r20 => ?_)
        (try rw [pa] at r20 ⊢)
        (try simp (disch := omega) only [put_r6, put_w6, put_r7, put_w7, put_r9, put_w9, put_r10, put_w10, put_r11, put_w11, put_r12, put_w12, put_r13, put_w13, put_r14, put_w14, put_r15, put_w15, put_ra, put_r8, put_r0, put_rt, put_wa, u1, u2, hn8] at r20 ⊢)
        refine e_istore_n (i := 1) (lsn := [(1, _), (0, _)]) 22 dX12_readLook_21 rfl (by decide) rfl rfl ?_
        refine e_iload_n (i := 1) 23 dX12_readLook_22 rfl rfl rfl ?_
        refine e_bipush 25 dX12_readLook_23 (by decide) rfl ?_
        refine e_icmp_ne 28 33 dX12_readLook_25 (by omega) (by decide) (by decide) rfl (fun b25 => ?_) (fun b25 => ?_)
        · first
           | (exfalso; omega)
           | (skip
              refine e_aload_n (i := 0) 34 dX12_readLook_33 rfl rfl rfl ?_
              refine e_geti (j := 11) 37 fl_12_123 dX12_readLook_34 at_928 (by decide) rfl rfl (fun r34 => ?_)
              simp (disch := omega) only [put_r6, put_w6, put_r7, put_w7, put_r9, put_w9, put_r10, put_w10, put_r11, put_w11, put_r12, put_w12, put_r13, put_w13, put_r14, put_w14, put_r15, put_w15, put_ra, put_r8, put_r0, put_rt, put_wa, u1, u2, hn8] at r34 ⊢
              refine e_if_eq 40 41 dX12_readLook_37 (by omega) (by decide) rfl (fun b37 => ?_) (fun b37 => ?_)
              · first
                 | (exfalso; omega)
                 | (skip
                    refine e_aload_n (i := 0) 42 dX12_readLook_41 rfl rfl rfl ?_
                    refine e_callV 45 mt_yX12_next mv_yX12_next wd_1393 (by decide) dX12_readLook_42 at_928 jc_12 rfl rfl rfl (Nat.le_of_ble_eq_true rfl) (jroom (by decide)) rfl (m_next hT (by (try simp (disch := omega) only [put_r6, put_w6, put_r7, put_w7, put_r9, put_w9, put_r10, put_w10, put_r11, put_w11, put_r12, put_w12, put_r13, put_w13, put_r14, put_w14, put_r15, put_w15, put_ra, put_r8, put_r0, put_rt, put_wa, u1, u2, hn8]); omega) ?_)
                    dsimp only [jpush]
                    (try simp (disch := omega) only [put_r6, put_w6, put_r7, put_w7, put_r9, put_w9, put_r10, put_w10, put_r11, put_w11, put_r12, put_w12, put_r13, put_w13, put_r14, put_w14, put_r15, put_w15, put_ra, put_r8, put_r0, put_rt, put_wa, u1, u2, hn8])
                    obtain ⟨s1, e1⟩ : ∃ z, z = pNext (M 931) n s := ⟨_, rfl⟩
                    rw [← e1]
                    have k1 := (pk_next hT hI (by omega)).1
                    rw [← e1] at k1
                    have q1 := k1.1.rng
                    refine e_aload_n (i := 0) 46 dX12_readLook_45 rfl rfl rfl ?_
                    refine e_bipush 48 dX12_readLook_46 (by decide) rfl ?_
                    refine e_callV 51 mt_yX12_musts mv_yX12_musts wd_1434 (by decide) dX12_readLook_48 at_928 jc_12 rfl rfl rfl (Nat.le_of_ble_eq_true rfl) (jroom (by decide)) rfl (m_musts hT (by (try simp (disch := omega) only [put_r6, put_w6, put_r7, put_w7, put_r9, put_w9, put_r10, put_w10, put_r11, put_w11, put_r12, put_w12, put_r13, put_w13, put_r14, put_w14, put_r15, put_w15, put_ra, put_r8, put_r0, put_rt, put_wa, u1, u2, hn8]); omega) (by (try simp (disch := omega) only [put_r6, put_w6, put_r7, put_w7, put_r9, put_w9, put_r10, put_w10, put_r11, put_w11, put_r12, put_w12, put_r13, put_w13, put_r14, put_w14, put_r15, put_w15, put_ra, put_r8, put_r0, put_rt, put_wa, u1, u2, hn8]); omega) ?_)
                    dsimp only [jpush]
                    (try simp (disch := omega) only [put_r6, put_w6, put_r7, put_w7, put_r9, put_w9, put_r10, put_w10, put_r11, put_w11, put_r12, put_w12, put_r13, put_w13, put_r14, put_w14, put_r15, put_w15, put_ra, put_r8, put_r0, put_rt, put_wa, u1, u2, hn8])
                    obtain ⟨s2, e2⟩ : ∃ z, z = pK1 (M 931) n s := ⟨_, rfl⟩
                    have g2 : pMust (M 931) n 10 s1 = s2 := by
                      rw [e2, pK1, ← e1]
                    rw [g2]
                    have k2 := (pk_k1 hT hI hw).1
                    rw [← e2] at k2
                    have t2 := k2.1.2.2.2.2.1
                    have p22 := k2.1.1
                    refine e_aload_n (i := 0) 52 dX12_readLook_51 rfl rfl rfl ?_
                    refine e_getr (j := 4) 55 fl_12_24 dX12_readLook_52 at_928 rfl rfl tp_928_4 rfl ?_
                    refine e_bipush 57 dX12_readLook_55 (by decide) rfl ?_
                    refine e_iload_n (i := 1) 58 dX12_readLook_57 rfl rfl rfl ?_
                    refine e_iadd 59 dX12_readLook_58 rfl ?_
                    refine e_aload_n (i := 0) 60 dX12_readLook_59 rfl rfl rfl ?_
                    refine e_geti (j := 14) 63 fl_12_166 dX12_readLook_60 at_928 (by decide) rfl rfl (fun r60 => ?_)
                    simp (disch := omega) only [put_r6, put_w6, put_r7, put_w7, put_r9, put_w9, put_r10, put_w10, put_r11, put_w11, put_r12, put_w12, put_r13, put_w13, put_r14, put_w14, put_r15, put_w15, put_ra, put_r8, put_r0, put_rt, put_wa, u1, u2, hn8] at r60 ⊢
                    refine e_iast 64 dX12_readLook_63 ar_932 (by omega) (by omega) (by omega) rfl ?_
                    simp (disch := omega) only [put_r6, put_w6, put_r7, put_w7, put_r9, put_w9, put_r10, put_w10, put_r11, put_w11, put_r12, put_w12, put_r13, put_w13, put_r14, put_w14, put_r15, put_w15, put_ra, put_r8, put_r0, put_rt, put_wa, u1, u2, hn8]
                    obtain ⟨s3, e3⟩ : ∃ z, z = pK2 (M 931) n s := ⟨_, rfl⟩
                    have g3 : pK2 (M 931) n s = s3 := e3.symm
                    unfold pK2 at g3
                    rw [← e2] at g3
                    rw [g3]
                    have i3 := pi_k2 hT hI hw
                    rw [← e3] at i3
                    have d3 : 0 ≤ s3.2.2.2.2.2.2.1 := i3.2.2.2.2.2.1.1
                    have p33 := i3.1
                    refine e_aload_n (i := 0) 65 dX12_readLook_64 rfl rfl rfl ?_
                    refine e_callV 68 mt_yX12_readTest mv_yX12_readTest wd_1452 (by decide) dX12_readLook_65 at_928 jc_12 rfl rfl rfl (Nat.le_of_ble_eq_true rfl) (jroom (by decide)) rfl ((ref_parse hT 2010).2.2.1 s3 _ 8 i3 (by (try simp (disch := omega) only [put_r6, put_w6, put_r7, put_w7, put_r9, put_w9, put_r10, put_w10, put_r11, put_w11, put_r12, put_w12, put_r13, put_w13, put_r14, put_w14, put_r15, put_w15, put_ra, put_r8, put_r0, put_rt, put_wa, u1, u2, hn8]); omega) (by (try simp (disch := omega) only [put_r6, put_w6, put_r7, put_w7, put_r9, put_w9, put_r10, put_w10, put_r11, put_w11, put_r12, put_w12, put_r13, put_w13, put_r14, put_w14, put_r15, put_w15, put_ra, put_r8, put_r0, put_rt, put_wa, u1, u2, hn8]); omega) ?_)
                    dsimp only [jpush]
                    (try simp (disch := omega) only [put_r6, put_w6, put_r7, put_w7, put_r9, put_w9, put_r10, put_w10, put_r11, put_w11, put_r12, put_w12, put_r13, put_w13, put_r14, put_w14, put_r15, put_w15, put_ra, put_r8, put_r0, put_rt, put_wa, u1, u2, hn8])
                    obtain ⟨s4, e4⟩ : ∃ z, z = pK3 (M 931) n s := ⟨_, rfl⟩
                    have g4 : prs (M 931) n 2010 4 s3 = s4 := by
                      rw [e4, pK3, ← e3]
                    rw [g4]
                    have k4 := pq_k3 hT hI hw
                    rw [← e4] at k4
                    have t4 := k4.1.2.2.2.2.1
                    have p44 := k4.1.1
                    refine e_aload_n (i := 0) 69 dX12_readLook_68 rfl rfl rfl ?_
                    refine e_getr (j := 4) 72 fl_12_24 dX12_readLook_69 at_928 rfl rfl tp_928_4 rfl ?_
                    refine e_bipush 74 dX12_readLook_72 (by decide) rfl ?_
                    refine e_iload_n (i := 1) 75 dX12_readLook_74 rfl rfl rfl ?_
                    refine e_iadd 76 dX12_readLook_75 rfl ?_
                    refine e_aload_n (i := 0) 77 dX12_readLook_76 rfl rfl rfl ?_
                    refine e_geti (j := 14) 80 fl_12_166 dX12_readLook_77 at_928 (by decide) rfl rfl (fun r77 => ?_)
                    simp (disch := omega) only [put_r6, put_w6, put_r7, put_w7, put_r9, put_w9, put_r10, put_w10, put_r11, put_w11, put_r12, put_w12, put_r13, put_w13, put_r14, put_w14, put_r15, put_w15, put_ra, put_r8, put_r0, put_rt, put_wa, u1, u2, hn8] at r77 ⊢
                    refine e_iast 81 dX12_readLook_80 ar_932 (by omega) (by omega) (by omega) rfl ?_
                    simp (disch := omega) only [put_r6, put_w6, put_r7, put_w7, put_r9, put_w9, put_r10, put_w10, put_r11, put_w11, put_r12, put_w12, put_r13, put_w13, put_r14, put_w14, put_r15, put_w15, put_ra, put_r8, put_r0, put_rt, put_wa, u1, u2, hn8]
                    obtain ⟨s5, e5⟩ : ∃ z, z = pK4 (M 931) n s := ⟨_, rfl⟩
                    have g5 : pK4 (M 931) n s = s5 := e5.symm
                    unfold pK4 at g5
                    rw [← e4] at g5
                    rw [g5]
                    have i5 := pi_k4 hT hI hw
                    rw [← e5] at i5
                    have q5 := i5.rng
                    refine e_aload_n (i := 0) 82 dX12_readLook_81 rfl rfl rfl ?_
                    refine e_bipush 84 dX12_readLook_82 (by decide) rfl ?_
                    refine e_callV 87 mt_yX12_musts mv_yX12_musts wd_1434 (by decide) dX12_readLook_84 at_928 jc_12 rfl rfl rfl (Nat.le_of_ble_eq_true rfl) (jroom (by decide)) rfl (m_musts hT (by (try simp (disch := omega) only [put_r6, put_w6, put_r7, put_w7, put_r9, put_w9, put_r10, put_w10, put_r11, put_w11, put_r12, put_w12, put_r13, put_w13, put_r14, put_w14, put_r15, put_w15, put_ra, put_r8, put_r0, put_rt, put_wa, u1, u2, hn8]); omega) (by (try simp (disch := omega) only [put_r6, put_w6, put_r7, put_w7, put_r9, put_w9, put_r10, put_w10, put_r11, put_w11, put_r12, put_w12, put_r13, put_w13, put_r14, put_w14, put_r15, put_w15, put_ra, put_r8, put_r0, put_rt, put_wa, u1, u2, hn8]); omega) ?_)
                    dsimp only [jpush]
                    (try simp (disch := omega) only [put_r6, put_w6, put_r7, put_w7, put_r9, put_w9, put_r10, put_w10, put_r11, put_w11, put_r12, put_w12, put_r13, put_w13, put_r14, put_w14, put_r15, put_w15, put_ra, put_r8, put_r0, put_rt, put_wa, u1, u2, hn8])
                    obtain ⟨s6, e6⟩ : ∃ z, z = pK5 (M 931) n s := ⟨_, rfl⟩
                    have g6 : pMust (M 931) n 22 s5 = s6 := by
                      rw [e6, pK5, ← e5]
                    rw [g6]
                    rw [← e6] at e65
                    refine e_aload_n (i := 0) 88 dX12_readLook_87 rfl rfl rfl ?_
                    refine e_getr (j := 4) 91 fl_12_24 dX12_readLook_88 at_928 rfl rfl tp_928_4 rfl ?_
                    refine e_bipush 93 dX12_readLook_91 (by decide) rfl ?_
                    refine e_dup2 94 dX12_readLook_93 rfl rfl rfl ?_
                    refine e_iald 95 dX12_readLook_94 ar_932 (by decide) (by decide) rfl (fun r94 => ?_)
                    simp (disch := omega) only [put_r6, put_w6, put_r7, put_w7, put_r9, put_w9, put_r10, put_w10, put_r11, put_w11, put_r12, put_w12, put_r13, put_w13, put_r14, put_w14, put_r15, put_w15, put_ra, put_r8, put_r0, put_rt, put_wa, u1, u2, hn8] at r94 ⊢
                    refine e_iconst 96 dX12_readLook_95 rfl ?_
                    refine e_iadd 97 dX12_readLook_96 rfl ?_
                    refine e_iast 98 dX12_readLook_97 ar_932 (by decide) (by decide) (by omega) rfl ?_
                    refine e_vret dX12_readLook_98 ?_
                    first
                      | (exfalso; omega)
                      | (rw [pLook, if_neg (by omega), if_neg (by omega), pK6, ← e6] at h
                         simp (disch := omega) only [put_r6, put_w6, put_r7, put_w7, put_r9, put_w9, put_r10, put_w10, put_r11, put_w11, put_r12, put_w12, put_r13, put_w13, put_r14, put_w14, put_r15, put_w15, put_ra, put_r8, put_r0, put_rt, put_wa, u1, u2, hn8]
                         exact h))
              · first
                 | (exfalso; omega)
                 | (skip
                    refine e_vret dX12_readLook_40 ?_
                    first
                      | (exfalso; omega)
                      | (rw [pLook, if_pos (by omega)] at h
                         rw [show pFail 4 (pFail 2 s) = pFail 2 s from if_pos p2]
                         exact h)
                      | (rw [pLook, if_pos (by omega)] at h
                         exact h)
                      | (rw [pLook, if_neg (by omega), if_pos (by omega)] at h
                         exact h)))
        · first
           | (exfalso; omega)
           | (skip
              refine e_aload_n (i := 0) 29 dX12_readLook_28 rfl rfl rfl ?_
              refine e_iconst 30 dX12_readLook_29 rfl ?_
              refine e_callV 33 mt_yX12_fails mv_yX12_fails wd_1426 (by decide) dX12_readLook_30 at_928 jc_12 rfl rfl rfl (Nat.le_of_ble_eq_true rfl) (jroom (by decide)) rfl (m_fails (by (try simp (disch := omega) only [put_r6, put_w6, put_r7, put_w7, put_r9, put_w9, put_r10, put_w10, put_r11, put_w11, put_r12, put_w12, put_r13, put_w13, put_r14, put_w14, put_r15, put_w15, put_ra, put_r8, put_r0, put_rt, put_wa, u1, u2, hn8]); omega) ?_)
              dsimp only [jpush]
              (try simp (disch := omega) only [put_r6, put_w6, put_r7, put_w7, put_r9, put_w9, put_r10, put_w10, put_r11, put_w11, put_r12, put_w12, put_r13, put_w13, put_r14, put_w14, put_r15, put_w15, put_ra, put_r8, put_r0, put_rt, put_wa, u1, u2, hn8])
              refine e_aload_n (i := 0) 34 dX12_readLook_33 rfl rfl rfl ?_
              refine e_geti (j := 11) 37 fl_12_123 dX12_readLook_34 at_928 (by decide) rfl rfl (fun r34 => ?_)
              simp (disch := omega) only [put_r6, put_w6, put_r7, put_w7, put_r9, put_w9, put_r10, put_w10, put_r11, put_w11, put_r12, put_w12, put_r13, put_w13, put_r14, put_w14, put_r15, put_w15, put_ra, put_r8, put_r0, put_rt, put_wa, u1, u2, hn8] at r34 ⊢
              refine e_if_eq 40 41 dX12_readLook_37 (by omega) (by decide) rfl (fun b37 => ?_) (fun b37 => ?_)
              · first
                 | (exfalso; omega)
                 | (skip
                    refine e_aload_n (i := 0) 42 dX12_readLook_41 rfl rfl rfl ?_
                    refine e_callV 45 mt_yX12_next mv_yX12_next wd_1393 (by decide) dX12_readLook_42 at_928 jc_12 rfl rfl rfl (Nat.le_of_ble_eq_true rfl) (jroom (by decide)) rfl (m_next hT (by (try simp (disch := omega) only [put_r6, put_w6, put_r7, put_w7, put_r9, put_w9, put_r10, put_w10, put_r11, put_w11, put_r12, put_w12, put_r13, put_w13, put_r14, put_w14, put_r15, put_w15, put_ra, put_r8, put_r0, put_rt, put_wa, u1, u2, hn8]); omega) ?_)
                    dsimp only [jpush]
                    (try simp (disch := omega) only [put_r6, put_w6, put_r7, put_w7, put_r9, put_w9, put_r10, put_w10, put_r11, put_w11, put_r12, put_w12, put_r13, put_w13, put_r14, put_w14, put_r15, put_w15, put_ra, put_r8, put_r0, put_rt, put_wa, u1, u2, hn8])
                    obtain ⟨s1, e1⟩ : ∃ z, z = pNext (M 931) n s := ⟨_, rfl⟩
                    rw [← e1]
                    have k1 := (pk_next hT hI (by omega)).1
                    rw [← e1] at k1
                    have q1 := k1.1.rng
                    refine e_aload_n (i := 0) 46 dX12_readLook_45 rfl rfl rfl ?_
                    refine e_bipush 48 dX12_readLook_46 (by decide) rfl ?_
                    refine e_callV 51 mt_yX12_musts mv_yX12_musts wd_1434 (by decide) dX12_readLook_48 at_928 jc_12 rfl rfl rfl (Nat.le_of_ble_eq_true rfl) (jroom (by decide)) rfl (m_musts hT (by (try simp (disch := omega) only [put_r6, put_w6, put_r7, put_w7, put_r9, put_w9, put_r10, put_w10, put_r11, put_w11, put_r12, put_w12, put_r13, put_w13, put_r14, put_w14, put_r15, put_w15, put_ra, put_r8, put_r0, put_rt, put_wa, u1, u2, hn8]); omega) (by (try simp (disch := omega) only [put_r6, put_w6, put_r7, put_w7, put_r9, put_w9, put_r10, put_w10, put_r11, put_w11, put_r12, put_w12, put_r13, put_w13, put_r14, put_w14, put_r15, put_w15, put_ra, put_r8, put_r0, put_rt, put_wa, u1, u2, hn8]); omega) ?_)
                    dsimp only [jpush]
                    (try simp (disch := omega) only [put_r6, put_w6, put_r7, put_w7, put_r9, put_w9, put_r10, put_w10, put_r11, put_w11, put_r12, put_w12, put_r13, put_w13, put_r14, put_w14, put_r15, put_w15, put_ra, put_r8, put_r0, put_rt, put_wa, u1, u2, hn8])
                    obtain ⟨s2, e2⟩ : ∃ z, z = pK1 (M 931) n s := ⟨_, rfl⟩
                    have g2 : pMust (M 931) n 10 s1 = s2 := by
                      rw [e2, pK1, ← e1]
                    rw [g2]
                    have k2 := (pk_k1 hT hI hw).1
                    rw [← e2] at k2
                    have t2 := k2.1.2.2.2.2.1
                    have p22 := k2.1.1
                    refine e_aload_n (i := 0) 52 dX12_readLook_51 rfl rfl rfl ?_
                    refine e_getr (j := 4) 55 fl_12_24 dX12_readLook_52 at_928 rfl rfl tp_928_4 rfl ?_
                    refine e_bipush 57 dX12_readLook_55 (by decide) rfl ?_
                    refine e_iload_n (i := 1) 58 dX12_readLook_57 rfl rfl rfl ?_
                    refine e_iadd 59 dX12_readLook_58 rfl ?_
                    refine e_aload_n (i := 0) 60 dX12_readLook_59 rfl rfl rfl ?_
                    refine e_geti (j := 14) 63 fl_12_166 dX12_readLook_60 at_928 (by decide) rfl rfl (fun r60 => ?_)
                    simp (disch := omega) only [put_r6, put_w6, put_r7, put_w7, put_r9, put_w9, put_r10, put_w10, put_r11, put_w11, put_r12, put_w12, put_r13, put_w13, put_r14, put_w14, put_r15, put_w15, put_ra, put_r8, put_r0, put_rt, put_wa, u1, u2, hn8] at r60 ⊢
                    refine e_iast 64 dX12_readLook_63 ar_932 (by omega) (by omega) (by omega) rfl ?_
                    simp (disch := omega) only [put_r6, put_w6, put_r7, put_w7, put_r9, put_w9, put_r10, put_w10, put_r11, put_w11, put_r12, put_w12, put_r13, put_w13, put_r14, put_w14, put_r15, put_w15, put_ra, put_r8, put_r0, put_rt, put_wa, u1, u2, hn8]
                    obtain ⟨s3, e3⟩ : ∃ z, z = pK2 (M 931) n s := ⟨_, rfl⟩
                    have g3 : pK2 (M 931) n s = s3 := e3.symm
                    unfold pK2 at g3
                    rw [← e2] at g3
                    rw [g3]
                    have i3 := pi_k2 hT hI hw
                    rw [← e3] at i3
                    have d3 : 0 ≤ s3.2.2.2.2.2.2.1 := i3.2.2.2.2.2.1.1
                    have p33 := i3.1
                    refine e_aload_n (i := 0) 65 dX12_readLook_64 rfl rfl rfl ?_
                    refine e_callV 68 mt_yX12_readTest mv_yX12_readTest wd_1452 (by decide) dX12_readLook_65 at_928 jc_12 rfl rfl rfl (Nat.le_of_ble_eq_true rfl) (jroom (by decide)) rfl ((ref_parse hT 2010).2.2.1 s3 _ 8 i3 (by (try simp (disch := omega) only [put_r6, put_w6, put_r7, put_w7, put_r9, put_w9, put_r10, put_w10, put_r11, put_w11, put_r12, put_w12, put_r13, put_w13, put_r14, put_w14, put_r15, put_w15, put_ra, put_r8, put_r0, put_rt, put_wa, u1, u2, hn8]); omega) (by (try simp (disch := omega) only [put_r6, put_w6, put_r7, put_w7, put_r9, put_w9, put_r10, put_w10, put_r11, put_w11, put_r12, put_w12, put_r13, put_w13, put_r14, put_w14, put_r15, put_w15, put_ra, put_r8, put_r0, put_rt, put_wa, u1, u2, hn8]); omega) ?_)
                    dsimp only [jpush]
                    (try simp (disch := omega) only [put_r6, put_w6, put_r7, put_w7, put_r9, put_w9, put_r10, put_w10, put_r11, put_w11, put_r12, put_w12, put_r13, put_w13, put_r14, put_w14, put_r15, put_w15, put_ra, put_r8, put_r0, put_rt, put_wa, u1, u2, hn8])
                    obtain ⟨s4, e4⟩ : ∃ z, z = pK3 (M 931) n s := ⟨_, rfl⟩
                    have g4 : prs (M 931) n 2010 4 s3 = s4 := by
                      rw [e4, pK3, ← e3]
                    rw [g4]
                    have k4 := pq_k3 hT hI hw
                    rw [← e4] at k4
                    have t4 := k4.1.2.2.2.2.1
                    have p44 := k4.1.1
                    refine e_aload_n (i := 0) 69 dX12_readLook_68 rfl rfl rfl ?_
                    refine e_getr (j := 4) 72 fl_12_24 dX12_readLook_69 at_928 rfl rfl tp_928_4 rfl ?_
                    refine e_bipush 74 dX12_readLook_72 (by decide) rfl ?_
                    refine e_iload_n (i := 1) 75 dX12_readLook_74 rfl rfl rfl ?_
                    refine e_iadd 76 dX12_readLook_75 rfl ?_
                    refine e_aload_n (i := 0) 77 dX12_readLook_76 rfl rfl rfl ?_
                    refine e_geti (j := 14) 80 fl_12_166 dX12_readLook_77 at_928 (by decide) rfl rfl (fun r77 => ?_)
                    simp (disch := omega) only [put_r6, put_w6, put_r7, put_w7, put_r9, put_w9, put_r10, put_w10, put_r11, put_w11, put_r12, put_w12, put_r13, put_w13, put_r14, put_w14, put_r15, put_w15, put_ra, put_r8, put_r0, put_rt, put_wa, u1, u2, hn8] at r77 ⊢
                    refine e_iast 81 dX12_readLook_80 ar_932 (by omega) (by omega) (by omega) rfl ?_
                    simp (disch := omega) only [put_r6, put_w6, put_r7, put_w7, put_r9, put_w9, put_r10, put_w10, put_r11, put_w11, put_r12, put_w12, put_r13, put_w13, put_r14, put_w14, put_r15, put_w15, put_ra, put_r8, put_r0, put_rt, put_wa, u1, u2, hn8]
                    obtain ⟨s5, e5⟩ : ∃ z, z = pK4 (M 931) n s := ⟨_, rfl⟩
                    have g5 : pK4 (M 931) n s = s5 := e5.symm
                    unfold pK4 at g5
                    rw [← e4] at g5
                    rw [g5]
                    have i5 := pi_k4 hT hI hw
                    rw [← e5] at i5
                    have q5 := i5.rng
                    refine e_aload_n (i := 0) 82 dX12_readLook_81 rfl rfl rfl ?_
                    refine e_bipush 84 dX12_readLook_82 (by decide) rfl ?_
                    refine e_callV 87 mt_yX12_musts mv_yX12_musts wd_1434 (by decide) dX12_readLook_84 at_928 jc_12 rfl rfl rfl (Nat.le_of_ble_eq_true rfl) (jroom (by decide)) rfl (m_musts hT (by (try simp (disch := omega) only [put_r6, put_w6, put_r7, put_w7, put_r9, put_w9, put_r10, put_w10, put_r11, put_w11, put_r12, put_w12, put_r13, put_w13, put_r14, put_w14, put_r15, put_w15, put_ra, put_r8, put_r0, put_rt, put_wa, u1, u2, hn8]); omega) (by (try simp (disch := omega) only [put_r6, put_w6, put_r7, put_w7, put_r9, put_w9, put_r10, put_w10, put_r11, put_w11, put_r12, put_w12, put_r13, put_w13, put_r14, put_w14, put_r15, put_w15, put_ra, put_r8, put_r0, put_rt, put_wa, u1, u2, hn8]); omega) ?_)
                    dsimp only [jpush]
                    (try simp (disch := omega) only [put_r6, put_w6, put_r7, put_w7, put_r9, put_w9, put_r10, put_w10, put_r11, put_w11, put_r12, put_w12, put_r13, put_w13, put_r14, put_w14, put_r15, put_w15, put_ra, put_r8, put_r0, put_rt, put_wa, u1, u2, hn8])
                    obtain ⟨s6, e6⟩ : ∃ z, z = pK5 (M 931) n s := ⟨_, rfl⟩
                    have g6 : pMust (M 931) n 22 s5 = s6 := by
                      rw [e6, pK5, ← e5]
                    rw [g6]
                    rw [← e6] at e65
                    refine e_aload_n (i := 0) 88 dX12_readLook_87 rfl rfl rfl ?_
                    refine e_getr (j := 4) 91 fl_12_24 dX12_readLook_88 at_928 rfl rfl tp_928_4 rfl ?_
                    refine e_bipush 93 dX12_readLook_91 (by decide) rfl ?_
                    refine e_dup2 94 dX12_readLook_93 rfl rfl rfl ?_
                    refine e_iald 95 dX12_readLook_94 ar_932 (by decide) (by decide) rfl (fun r94 => ?_)
                    simp (disch := omega) only [put_r6, put_w6, put_r7, put_w7, put_r9, put_w9, put_r10, put_w10, put_r11, put_w11, put_r12, put_w12, put_r13, put_w13, put_r14, put_w14, put_r15, put_w15, put_ra, put_r8, put_r0, put_rt, put_wa, u1, u2, hn8] at r94 ⊢
                    refine e_iconst 96 dX12_readLook_95 rfl ?_
                    refine e_iadd 97 dX12_readLook_96 rfl ?_
                    refine e_iast 98 dX12_readLook_97 ar_932 (by decide) (by decide) (by omega) rfl ?_
                    refine e_vret dX12_readLook_98 ?_
                    first
                      | (exfalso; omega)
                      | (rw [pLook, if_neg (by omega), if_neg (by omega), pK6, ← e6] at h
                         simp (disch := omega) only [put_r6, put_w6, put_r7, put_w7, put_r9, put_w9, put_r10, put_w10, put_r11, put_w11, put_r12, put_w12, put_r13, put_w13, put_r14, put_w14, put_r15, put_w15, put_ra, put_r8, put_r0, put_rt, put_wa, u1, u2, hn8]
                         exact h))
              · first
                 | (exfalso; omega)
                 | (skip
                    refine e_vret dX12_readLook_40 ?_
                    first
                      | (exfalso; omega)
                      | (rw [pLook, if_pos (by omega)] at h
                         rw [show pFail 4 (pFail 2 s) = pFail 2 s from if_pos p2]
                         exact h)
                      | (rw [pLook, if_pos (by omega)] at h
                         exact h)
                      | (rw [pLook, if_neg (by omega), if_pos (by omega)] at h
                         exact h))))
  · dsimp only [jpush]
    (try simp (disch := omega) only [put_r6, put_w6, put_r7, put_w7, put_r9, put_w9, put_r10, put_w10, put_r11, put_w11, put_r12, put_w12, put_r13, put_w13, put_r14, put_w14, put_r15, put_w15, put_ra, put_r8, put_r0, put_rt, put_wa, u1, u2, hn8] at w3)
    (try simp (disch := omega) only [put_r6, put_w6, put_r7, put_w7, put_r9, put_w9, put_r10, put_w10, put_r11, put_w11, put_r12, put_w12, put_r13, put_w13, put_r14, put_w14, put_r15, put_w15, put_ra, put_r8, put_r0, put_rt, put_wa, u1, u2, hn8])
    first
     | (exfalso; omega)
     | (skip
        refine e_if_ne 9 14 dX12_readLook_6 (by decide) (by decide) rfl (fun h => absurd h (by decide)) (fun _ => ?_)
        refine e_aload_n (i := 0) 10 dX12_readLook_9 rfl rfl rfl ?_
        refine e_iconst 11 dX12_readLook_10 rfl ?_
        refine e_callV 14 mt_yX12_fails mv_yX12_fails wd_1426 (by decide) dX12_readLook_11 at_928 jc_12 rfl rfl rfl (Nat.le_of_ble_eq_true rfl) (jroom (by decide)) rfl (m_fails (by (try simp (disch := omega) only [put_r6, put_w6, put_r7, put_w7, put_r9, put_w9, put_r10, put_w10, put_r11, put_w11, put_r12, put_w12, put_r13, put_w13, put_r14, put_w14, put_r15, put_w15, put_ra, put_r8, put_r0, put_rt, put_wa, u1, u2, hn8]); omega) ?_)
        dsimp only [jpush]
        (try simp (disch := omega) only [put_r6, put_w6, put_r7, put_w7, put_r9, put_w9, put_r10, put_w10, put_r11, put_w11, put_r12, put_w12, put_r13, put_w13, put_r14, put_w14, put_r15, put_w15, put_ra, put_r8, put_r0, put_rt, put_wa, u1, u2, hn8])
        refine e_aload_n (i := 0) 15 dX12_readLook_14 rfl rfl rfl ?_
        refine e_getr (j := 4) 18 fl_12_24 dX12_readLook_15 at_928 rfl rfl tp_928_4 rfl ?_
        refine e_bipush 20 dX12_readLook_18 (by decide) rfl ?_
        refine e_iald 21 dX12_readLook_20 ar_932 (by decide) (by decide) rfl (fun r20 => ?_)
        (try rw [pa] at r20 ⊢)
        (try simp (disch := omega) only [put_r6, put_w6, put_r7, put_w7, put_r9, put_w9, put_r10, put_w10, put_r11, put_w11, put_r12, put_w12, put_r13, put_w13, put_r14, put_w14, put_r15, put_w15, put_ra, put_r8, put_r0, put_rt, put_wa, u1, u2, hn8] at r20 ⊢)
        refine e_istore_n (i := 1) (lsn := [(1, _), (0, _)]) 22 dX12_readLook_21 rfl (by decide) rfl rfl ?_
        refine e_iload_n (i := 1) 23 dX12_readLook_22 rfl rfl rfl ?_
        refine e_bipush 25 dX12_readLook_23 (by decide) rfl ?_
        refine e_icmp_ne 28 33 dX12_readLook_25 (by omega) (by decide) (by decide) rfl (fun b25 => ?_) (fun b25 => ?_)
        · first
           | (exfalso; omega)
           | (skip
              refine e_aload_n (i := 0) 34 dX12_readLook_33 rfl rfl rfl ?_
              refine e_geti (j := 11) 37 fl_12_123 dX12_readLook_34 at_928 (by decide) rfl rfl (fun r34 => ?_)
              simp (disch := omega) only [put_r6, put_w6, put_r7, put_w7, put_r9, put_w9, put_r10, put_w10, put_r11, put_w11, put_r12, put_w12, put_r13, put_w13, put_r14, put_w14, put_r15, put_w15, put_ra, put_r8, put_r0, put_rt, put_wa, u1, u2, hn8] at r34 ⊢
              refine e_if_eq 40 41 dX12_readLook_37 (by omega) (by decide) rfl (fun b37 => ?_) (fun b37 => ?_)
              · first
                 | (exfalso; omega)
                 | (skip
                    refine e_aload_n (i := 0) 42 dX12_readLook_41 rfl rfl rfl ?_
                    refine e_callV 45 mt_yX12_next mv_yX12_next wd_1393 (by decide) dX12_readLook_42 at_928 jc_12 rfl rfl rfl (Nat.le_of_ble_eq_true rfl) (jroom (by decide)) rfl (m_next hT (by (try simp (disch := omega) only [put_r6, put_w6, put_r7, put_w7, put_r9, put_w9, put_r10, put_w10, put_r11, put_w11, put_r12, put_w12, put_r13, put_w13, put_r14, put_w14, put_r15, put_w15, put_ra, put_r8, put_r0, put_rt, put_wa, u1, u2, hn8]); omega) ?_)
                    dsimp only [jpush]
                    (try simp (disch := omega) only [put_r6, put_w6, put_r7, put_w7, put_r9, put_w9, put_r10, put_w10, put_r11, put_w11, put_r12, put_w12, put_r13, put_w13, put_r14, put_w14, put_r15, put_w15, put_ra, put_r8, put_r0, put_rt, put_wa, u1, u2, hn8])
                    obtain ⟨s1, e1⟩ : ∃ z, z = pNext (M 931) n s := ⟨_, rfl⟩
                    rw [← e1]
                    have k1 := (pk_next hT hI (by omega)).1
                    rw [← e1] at k1
                    have q1 := k1.1.rng
                    refine e_aload_n (i := 0) 46 dX12_readLook_45 rfl rfl rfl ?_
                    refine e_bipush 48 dX12_readLook_46 (by decide) rfl ?_
                    refine e_callV 51 mt_yX12_musts mv_yX12_musts wd_1434 (by decide) dX12_readLook_48 at_928 jc_12 rfl rfl rfl (Nat.le_of_ble_eq_true rfl) (jroom (by decide)) rfl (m_musts hT (by (try simp (disch := omega) only [put_r6, put_w6, put_r7, put_w7, put_r9, put_w9, put_r10, put_w10, put_r11, put_w11, put_r12, put_w12, put_r13, put_w13, put_r14, put_w14, put_r15, put_w15, put_ra, put_r8, put_r0, put_rt, put_wa, u1, u2, hn8]); omega) (by (try simp (disch := omega) only [put_r6, put_w6, put_r7, put_w7, put_r9, put_w9, put_r10, put_w10, put_r11, put_w11, put_r12, put_w12, put_r13, put_w13, put_r14, put_w14, put_r15, put_w15, put_ra, put_r8, put_r0, put_rt, put_wa, u1, u2, hn8]); omega) ?_)
                    dsimp only [jpush]
                    (try simp (disch := omega) only [put_r6, put_w6, put_r7, put_w7, put_r9, put_w9, put_r10, put_w10, put_r11, put_w11, put_r12, put_w12, put_r13, put_w13, put_r14, put_w14, put_r15, put_w15, put_ra, put_r8, put_r0, put_rt, put_wa, u1, u2, hn8])
                    obtain ⟨s2, e2⟩ : ∃ z, z = pK1 (M 931) n s := ⟨_, rfl⟩
                    have g2 : pMust (M 931) n 10 s1 = s2 := by
                      rw [e2, pK1, ← e1]
                    rw [g2]
                    have k2 := (pk_k1 hT hI hw).1
                    rw [← e2] at k2
                    have t2 := k2.1.2.2.2.2.1
                    have p22 := k2.1.1
                    refine e_aload_n (i := 0) 52 dX12_readLook_51 rfl rfl rfl ?_
                    refine e_getr (j := 4) 55 fl_12_24 dX12_readLook_52 at_928 rfl rfl tp_928_4 rfl ?_
                    refine e_bipush 57 dX12_readLook_55 (by decide) rfl ?_
                    refine e_iload_n (i := 1) 58 dX12_readLook_57 rfl rfl rfl ?_
                    refine e_iadd 59 dX12_readLook_58 rfl ?_
                    refine e_aload_n (i := 0) 60 dX12_readLook_59 rfl rfl rfl ?_
                    refine e_geti (j := 14) 63 fl_12_166 dX12_readLook_60 at_928 (by decide) rfl rfl (fun r60 => ?_)
                    simp (disch := omega) only [put_r6, put_w6, put_r7, put_w7, put_r9, put_w9, put_r10, put_w10, put_r11, put_w11, put_r12, put_w12, put_r13, put_w13, put_r14, put_w14, put_r15, put_w15, put_ra, put_r8, put_r0, put_rt, put_wa, u1, u2, hn8] at r60 ⊢
                    refine e_iast 64 dX12_readLook_63 ar_932 (by omega) (by omega) (by omega) rfl ?_
                    simp (disch := omega) only [put_r6, put_w6, put_r7, put_w7, put_r9, put_w9, put_r10, put_w10, put_r11, put_w11, put_r12, put_w12, put_r13, put_w13, put_r14, put_w14, put_r15, put_w15, put_ra, put_r8, put_r0, put_rt, put_wa, u1, u2, hn8]
                    obtain ⟨s3, e3⟩ : ∃ z, z = pK2 (M 931) n s := ⟨_, rfl⟩
                    have g3 : pK2 (M 931) n s = s3 := e3.symm
                    unfold pK2 at g3
                    rw [← e2] at g3
                    rw [g3]
                    have i3 := pi_k2 hT hI hw
                    rw [← e3] at i3
                    have d3 : 0 ≤ s3.2.2.2.2.2.2.1 := i3.2.2.2.2.2.1.1
                    have p33 := i3.1
                    refine e_aload_n (i := 0) 65 dX12_readLook_64 rfl rfl rfl ?_
                    refine e_callV 68 mt_yX12_readTest mv_yX12_readTest wd_1452 (by decide) dX12_readLook_65 at_928 jc_12 rfl rfl rfl (Nat.le_of_ble_eq_true rfl) (jroom (by decide)) rfl ((ref_parse hT 2010).2.2.1 s3 _ 8 i3 (by (try simp (disch := omega) only [put_r6, put_w6, put_r7, put_w7, put_r9, put_w9, put_r10, put_w10, put_r11, put_w11, put_r12, put_w12, put_r13, put_w13, put_r14, put_w14, put_r15, put_w15, put_ra, put_r8, put_r0, put_rt, put_wa, u1, u2, hn8]); omega) (by (try simp (disch := omega) only [put_r6, put_w6, put_r7, put_w7, put_r9, put_w9, put_r10, put_w10, put_r11, put_w11, put_r12, put_w12, put_r13, put_w13, put_r14, put_w14, put_r15, put_w15, put_ra, put_r8, put_r0, put_rt, put_wa, u1, u2, hn8]); omega) ?_)
                    dsimp only [jpush]
                    (try simp (disch := omega) only [put_r6, put_w6, put_r7, put_w7, put_r9, put_w9, put_r10, put_w10, put_r11, put_w11, put_r12, put_w12, put_r13, put_w13, put_r14, put_w14, put_r15, put_w15, put_ra, put_r8, put_r0, put_rt, put_wa, u1, u2, hn8])
                    obtain ⟨s4, e4⟩ : ∃ z, z = pK3 (M 931) n s := ⟨_, rfl⟩
                    have g4 : prs (M 931) n 2010 4 s3 = s4 := by
                      rw [e4, pK3, ← e3]
                    rw [g4]
                    have k4 := pq_k3 hT hI hw
                    rw [← e4] at k4
                    have t4 := k4.1.2.2.2.2.1
                    have p44 := k4.1.1
                    refine e_aload_n (i := 0) 69 dX12_readLook_68 rfl rfl rfl ?_
                    refine e_getr (j := 4) 72 fl_12_24 dX12_readLook_69 at_928 rfl rfl tp_928_4 rfl ?_
                    refine e_bipush 74 dX12_readLook_72 (by decide) rfl ?_
                    refine e_iload_n (i := 1) 75 dX12_readLook_74 rfl rfl rfl ?_
                    refine e_iadd 76 dX12_readLook_75 rfl ?_
                    refine e_aload_n (i := 0) 77 dX12_readLook_76 rfl rfl rfl ?_
                    refine e_geti (j := 14) 80 fl_12_166 dX12_readLook_77 at_928 (by decide) rfl rfl (fun r77 => ?_)
                    simp (disch := omega) only [put_r6, put_w6, put_r7, put_w7, put_r9, put_w9, put_r10, put_w10, put_r11, put_w11, put_r12, put_w12, put_r13, put_w13, put_r14, put_w14, put_r15, put_w15, put_ra, put_r8, put_r0, put_rt, put_wa, u1, u2, hn8] at r77 ⊢
                    refine e_iast 81 dX12_readLook_80 ar_932 (by omega) (by omega) (by omega) rfl ?_
                    simp (disch := omega) only [put_r6, put_w6, put_r7, put_w7, put_r9, put_w9, put_r10, put_w10, put_r11, put_w11, put_r12, put_w12, put_r13, put_w13, put_r14, put_w14, put_r15, put_w15, put_ra, put_r8, put_r0, put_rt, put_wa, u1, u2, hn8]
                    obtain ⟨s5, e5⟩ : ∃ z, z = pK4 (M 931) n s := ⟨_, rfl⟩
                    have g5 : pK4 (M 931) n s = s5 := e5.symm
                    unfold pK4 at g5
                    rw [← e4] at g5
                    rw [g5]
                    have i5 := pi_k4 hT hI hw
                    rw [← e5] at i5
                    have q5 := i5.rng
                    refine e_aload_n (i := 0) 82 dX12_readLook_81 rfl rfl rfl ?_
                    refine e_bipush 84 dX12_readLook_82 (by decide) rfl ?_
                    refine e_callV 87 mt_yX12_musts mv_yX12_musts wd_1434 (by decide) dX12_readLook_84 at_928 jc_12 rfl rfl rfl (Nat.le_of_ble_eq_true rfl) (jroom (by decide)) rfl (m_musts hT (by (try simp (disch := omega) only [put_r6, put_w6, put_r7, put_w7, put_r9, put_w9, put_r10, put_w10, put_r11, put_w11, put_r12, put_w12, put_r13, put_w13, put_r14, put_w14, put_r15, put_w15, put_ra, put_r8, put_r0, put_rt, put_wa, u1, u2, hn8]); omega) (by (try simp (disch := omega) only [put_r6, put_w6, put_r7, put_w7, put_r9, put_w9, put_r10, put_w10, put_r11, put_w11, put_r12, put_w12, put_r13, put_w13, put_r14, put_w14, put_r15, put_w15, put_ra, put_r8, put_r0, put_rt, put_wa, u1, u2, hn8]); omega) ?_)
                    dsimp only [jpush]
                    (try simp (disch := omega) only [put_r6, put_w6, put_r7, put_w7, put_r9, put_w9, put_r10, put_w10, put_r11, put_w11, put_r12, put_w12, put_r13, put_w13, put_r14, put_w14, put_r15, put_w15, put_ra, put_r8, put_r0, put_rt, put_wa, u1, u2, hn8])
                    obtain ⟨s6, e6⟩ : ∃ z, z = pK5 (M 931) n s := ⟨_, rfl⟩
                    have g6 : pMust (M 931) n 22 s5 = s6 := by
                      rw [e6, pK5, ← e5]
                    rw [g6]
                    rw [← e6] at e65
                    refine e_aload_n (i := 0) 88 dX12_readLook_87 rfl rfl rfl ?_
                    refine e_getr (j := 4) 91 fl_12_24 dX12_readLook_88 at_928 rfl rfl tp_928_4 rfl ?_
                    refine e_bipush 93 dX12_readLook_91 (by decide) rfl ?_
                    refine e_dup2 94 dX12_readLook_93 rfl rfl rfl ?_
                    refine e_iald 95 dX12_readLook_94 ar_932 (by decide) (by decide) rfl (fun r94 => ?_)
                    simp (disch := omega) only [put_r6, put_w6, put_r7, put_w7, put_r9, put_w9, put_r10, put_w10, put_r11, put_w11, put_r12, put_w12, put_r13, put_w13, put_r14, put_w14, put_r15, put_w15, put_ra, put_r8, put_r0, put_rt, put_wa, u1, u2, hn8] at r94 ⊢
                    refine e_iconst 96 dX12_readLook_95 rfl ?_
                    refine e_iadd 97 dX12_readLook_96 rfl ?_
                    refine e_iast 98 dX12_readLook_97 ar_932 (by decide) (by decide) (by omega) rfl ?_
                    refine e_vret dX12_readLook_98 ?_
                    first
                      | (exfalso; omega)
                      | (rw [pLook, if_neg (by omega), if_neg (by omega), pK6, ← e6] at h
                         simp (disch := omega) only [put_r6, put_w6, put_r7, put_w7, put_r9, put_w9, put_r10, put_w10, put_r11, put_w11, put_r12, put_w12, put_r13, put_w13, put_r14, put_w14, put_r15, put_w15, put_ra, put_r8, put_r0, put_rt, put_wa, u1, u2, hn8]
                         exact h))
              · first
                 | (exfalso; omega)
                 | (skip
                    refine e_vret dX12_readLook_40 ?_
                    first
                      | (exfalso; omega)
                      | (rw [pLook, if_pos (by omega)] at h
                         rw [show pFail 4 (pFail 2 s) = pFail 2 s from if_pos p2]
                         exact h)
                      | (rw [pLook, if_pos (by omega)] at h
                         exact h)
                      | (rw [pLook, if_neg (by omega), if_pos (by omega)] at h
                         exact h)))
        · first
           | (exfalso; omega)
           | (skip
              refine e_aload_n (i := 0) 29 dX12_readLook_28 rfl rfl rfl ?_
              refine e_iconst 30 dX12_readLook_29 rfl ?_
              refine e_callV 33 mt_yX12_fails mv_yX12_fails wd_1426 (by decide) dX12_readLook_30 at_928 jc_12 rfl rfl rfl (Nat.le_of_ble_eq_true rfl) (jroom (by decide)) rfl (m_fails (by (try simp (disch := omega) only [put_r6, put_w6, put_r7, put_w7, put_r9, put_w9, put_r10, put_w10, put_r11, put_w11, put_r12, put_w12, put_r13, put_w13, put_r14, put_w14, put_r15, put_w15, put_ra, put_r8, put_r0, put_rt, put_wa, u1, u2, hn8]); omega) ?_)
              dsimp only [jpush]
              (try simp (disch := omega) only [put_r6, put_w6, put_r7, put_w7, put_r9, put_w9, put_r10, put_w10, put_r11, put_w11, put_r12, put_w12, put_r13, put_w13, put_r14, put_w14, put_r15, put_w15, put_ra, put_r8, put_r0, put_rt, put_wa, u1, u2, hn8])
              refine e_aload_n (i := 0) 34 dX12_readLook_33 rfl rfl rfl ?_
              refine e_geti (j := 11) 37 fl_12_123 dX12_readLook_34 at_928 (by decide) rfl rfl (fun r34 => ?_)
              simp (disch := omega) only [put_r6, put_w6, put_r7, put_w7, put_r9, put_w9, put_r10, put_w10, put_r11, put_w11, put_r12, put_w12, put_r13, put_w13, put_r14, put_w14, put_r15, put_w15, put_ra, put_r8, put_r0, put_rt, put_wa, u1, u2, hn8] at r34 ⊢
              refine e_if_eq 40 41 dX12_readLook_37 (by omega) (by decide) rfl (fun b37 => ?_) (fun b37 => ?_)
              · first
                 | (exfalso; omega)
                 | (skip
                    refine e_aload_n (i := 0) 42 dX12_readLook_41 rfl rfl rfl ?_
                    refine e_callV 45 mt_yX12_next mv_yX12_next wd_1393 (by decide) dX12_readLook_42 at_928 jc_12 rfl rfl rfl (Nat.le_of_ble_eq_true rfl) (jroom (by decide)) rfl (m_next hT (by (try simp (disch := omega) only [put_r6, put_w6, put_r7, put_w7, put_r9, put_w9, put_r10, put_w10, put_r11, put_w11, put_r12, put_w12, put_r13, put_w13, put_r14, put_w14, put_r15, put_w15, put_ra, put_r8, put_r0, put_rt, put_wa, u1, u2, hn8]); omega) ?_)
                    dsimp only [jpush]
                    (try simp (disch := omega) only [put_r6, put_w6, put_r7, put_w7, put_r9, put_w9, put_r10, put_w10, put_r11, put_w11, put_r12, put_w12, put_r13, put_w13, put_r14, put_w14, put_r15, put_w15, put_ra, put_r8, put_r0, put_rt, put_wa, u1, u2, hn8])
                    obtain ⟨s1, e1⟩ : ∃ z, z = pNext (M 931) n s := ⟨_, rfl⟩
                    rw [← e1]
                    have k1 := (pk_next hT hI (by omega)).1
                    rw [← e1] at k1
                    have q1 := k1.1.rng
                    refine e_aload_n (i := 0) 46 dX12_readLook_45 rfl rfl rfl ?_
                    refine e_bipush 48 dX12_readLook_46 (by decide) rfl ?_
                    refine e_callV 51 mt_yX12_musts mv_yX12_musts wd_1434 (by decide) dX12_readLook_48 at_928 jc_12 rfl rfl rfl (Nat.le_of_ble_eq_true rfl) (jroom (by decide)) rfl (m_musts hT (by (try simp (disch := omega) only [put_r6, put_w6, put_r7, put_w7, put_r9, put_w9, put_r10, put_w10, put_r11, put_w11, put_r12, put_w12, put_r13, put_w13, put_r14, put_w14, put_r15, put_w15, put_ra, put_r8, put_r0, put_rt, put_wa, u1, u2, hn8]); omega) (by (try simp (disch := omega) only [put_r6, put_w6, put_r7, put_w7, put_r9, put_w9, put_r10, put_w10, put_r11, put_w11, put_r12, put_w12, put_r13, put_w13, put_r14, put_w14, put_r15, put_w15, put_ra, put_r8, put_r0, put_rt, put_wa, u1, u2, hn8]); omega) ?_)
                    dsimp only [jpush]
                    (try simp (disch := omega) only [put_r6, put_w6, put_r7, put_w7, put_r9, put_w9, put_r10, put_w10, put_r11, put_w11, put_r12, put_w12, put_r13, put_w13, put_r14, put_w14, put_r15, put_w15, put_ra, put_r8, put_r0, put_rt, put_wa, u1, u2, hn8])
                    obtain ⟨s2, e2⟩ : ∃ z, z = pK1 (M 931) n s := ⟨_, rfl⟩
                    have g2 : pMust (M 931) n 10 s1 = s2 := by
                      rw [e2, pK1, ← e1]
                    rw [g2]
                    have k2 := (pk_k1 hT hI hw).1
                    rw [← e2] at k2
                    have t2 := k2.1.2.2.2.2.1
                    have p22 := k2.1.1
                    refine e_aload_n (i := 0) 52 dX12_readLook_51 rfl rfl rfl ?_
                    refine e_getr (j := 4) 55 fl_12_24 dX12_readLook_52 at_928 rfl rfl tp_928_4 rfl ?_
                    refine e_bipush 57 dX12_readLook_55 (by decide) rfl ?_
                    refine e_iload_n (i := 1) 58 dX12_readLook_57 rfl rfl rfl ?_
                    refine e_iadd 59 dX12_readLook_58 rfl ?_
                    refine e_aload_n (i := 0) 60 dX12_readLook_59 rfl rfl rfl ?_
                    refine e_geti (j := 14) 63 fl_12_166 dX12_readLook_60 at_928 (by decide) rfl rfl (fun r60 => ?_)
                    simp (disch := omega) only [put_r6, put_w6, put_r7, put_w7, put_r9, put_w9, put_r10, put_w10, put_r11, put_w11, put_r12, put_w12, put_r13, put_w13, put_r14, put_w14, put_r15, put_w15, put_ra, put_r8, put_r0, put_rt, put_wa, u1, u2, hn8] at r60 ⊢
                    refine e_iast 64 dX12_readLook_63 ar_932 (by omega) (by omega) (by omega) rfl ?_
                    simp (disch := omega) only [put_r6, put_w6, put_r7, put_w7, put_r9, put_w9, put_r10, put_w10, put_r11, put_w11, put_r12, put_w12, put_r13, put_w13, put_r14, put_w14, put_r15, put_w15, put_ra, put_r8, put_r0, put_rt, put_wa, u1, u2, hn8]
                    obtain ⟨s3, e3⟩ : ∃ z, z = pK2 (M 931) n s := ⟨_, rfl⟩
                    have g3 : pK2 (M 931) n s = s3 := e3.symm
                    unfold pK2 at g3
                    rw [← e2] at g3
                    rw [g3]
                    have i3 := pi_k2 hT hI hw
                    rw [← e3] at i3
                    have d3 : 0 ≤ s3.2.2.2.2.2.2.1 := i3.2.2.2.2.2.1.1
                    have p33 := i3.1
                    refine e_aload_n (i := 0) 65 dX12_readLook_64 rfl rfl rfl ?_
                    refine e_callV 68 mt_yX12_readTest mv_yX12_readTest wd_1452 (by decide) dX12_readLook_65 at_928 jc_12 rfl rfl rfl (Nat.le_of_ble_eq_true rfl) (jroom (by decide)) rfl ((ref_parse hT 2010).2.2.1 s3 _ 8 i3 (by (try simp (disch := omega) only [put_r6, put_w6, put_r7, put_w7, put_r9, put_w9, put_r10, put_w10, put_r11, put_w11, put_r12, put_w12, put_r13, put_w13, put_r14, put_w14, put_r15, put_w15, put_ra, put_r8, put_r0, put_rt, put_wa, u1, u2, hn8]); omega) (by (try simp (disch := omega) only [put_r6, put_w6, put_r7, put_w7, put_r9, put_w9, put_r10, put_w10, put_r11, put_w11, put_r12, put_w12, put_r13, put_w13, put_r14, put_w14, put_r15, put_w15, put_ra, put_r8, put_r0, put_rt, put_wa, u1, u2, hn8]); omega) ?_)
                    dsimp only [jpush]
                    (try simp (disch := omega) only [put_r6, put_w6, put_r7, put_w7, put_r9, put_w9, put_r10, put_w10, put_r11, put_w11, put_r12, put_w12, put_r13, put_w13, put_r14, put_w14, put_r15, put_w15, put_ra, put_r8, put_r0, put_rt, put_wa, u1, u2, hn8])
                    obtain ⟨s4, e4⟩ : ∃ z, z = pK3 (M 931) n s := ⟨_, rfl⟩
                    have g4 : prs (M 931) n 2010 4 s3 = s4 := by
                      rw [e4, pK3, ← e3]
                    rw [g4]
                    have k4 := pq_k3 hT hI hw
                    rw [← e4] at k4
                    have t4 := k4.1.2.2.2.2.1
                    have p44 := k4.1.1
                    refine e_aload_n (i := 0) 69 dX12_readLook_68 rfl rfl rfl ?_
                    refine e_getr (j := 4) 72 fl_12_24 dX12_readLook_69 at_928 rfl rfl tp_928_4 rfl ?_
                    refine e_bipush 74 dX12_readLook_72 (by decide) rfl ?_
                    refine e_iload_n (i := 1) 75 dX12_readLook_74 rfl rfl rfl ?_
                    refine e_iadd 76 dX12_readLook_75 rfl ?_
                    refine e_aload_n (i := 0) 77 dX12_readLook_76 rfl rfl rfl ?_
                    refine e_geti (j := 14) 80 fl_12_166 dX12_readLook_77 at_928 (by decide) rfl rfl (fun r77 => ?_)
                    simp (disch := omega) only [put_r6, put_w6, put_r7, put_w7, put_r9, put_w9, put_r10, put_w10, put_r11, put_w11, put_r12, put_w12, put_r13, put_w13, put_r14, put_w14, put_r15, put_w15, put_ra, put_r8, put_r0, put_rt, put_wa, u1, u2, hn8] at r77 ⊢
                    refine e_iast 81 dX12_readLook_80 ar_932 (by omega) (by omega) (by omega) rfl ?_
                    simp (disch := omega) only [put_r6, put_w6, put_r7, put_w7, put_r9, put_w9, put_r10, put_w10, put_r11, put_w11, put_r12, put_w12, put_r13, put_w13, put_r14, put_w14, put_r15, put_w15, put_ra, put_r8, put_r0, put_rt, put_wa, u1, u2, hn8]
                    obtain ⟨s5, e5⟩ : ∃ z, z = pK4 (M 931) n s := ⟨_, rfl⟩
                    have g5 : pK4 (M 931) n s = s5 := e5.symm
                    unfold pK4 at g5
                    rw [← e4] at g5
                    rw [g5]
                    have i5 := pi_k4 hT hI hw
                    rw [← e5] at i5
                    have q5 := i5.rng
                    refine e_aload_n (i := 0) 82 dX12_readLook_81 rfl rfl rfl ?_
                    refine e_bipush 84 dX12_readLook_82 (by decide) rfl ?_
                    refine e_callV 87 mt_yX12_musts mv_yX12_musts wd_1434 (by decide) dX12_readLook_84 at_928 jc_12 rfl rfl rfl (Nat.le_of_ble_eq_true rfl) (jroom (by decide)) rfl (m_musts hT (by (try simp (disch := omega) only [put_r6, put_w6, put_r7, put_w7, put_r9, put_w9, put_r10, put_w10, put_r11, put_w11, put_r12, put_w12, put_r13, put_w13, put_r14, put_w14, put_r15, put_w15, put_ra, put_r8, put_r0, put_rt, put_wa, u1, u2, hn8]); omega) (by (try simp (disch := omega) only [put_r6, put_w6, put_r7, put_w7, put_r9, put_w9, put_r10, put_w10, put_r11, put_w11, put_r12, put_w12, put_r13, put_w13, put_r14, put_w14, put_r15, put_w15, put_ra, put_r8, put_r0, put_rt, put_wa, u1, u2, hn8]); omega) ?_)
                    dsimp only [jpush]
                    (try simp (disch := omega) only [put_r6, put_w6, put_r7, put_w7, put_r9, put_w9, put_r10, put_w10, put_r11, put_w11, put_r12, put_w12, put_r13, put_w13, put_r14, put_w14, put_r15, put_w15, put_ra, put_r8, put_r0, put_rt, put_wa, u1, u2, hn8])
                    obtain ⟨s6, e6⟩ : ∃ z, z = pK5 (M 931) n s := ⟨_, rfl⟩
                    have g6 : pMust (M 931) n 22 s5 = s6 := by
                      rw [e6, pK5, ← e5]
                    rw [g6]
                    rw [← e6] at e65
                    refine e_aload_n (i := 0) 88 dX12_readLook_87 rfl rfl rfl ?_
                    refine e_getr (j := 4) 91 fl_12_24 dX12_readLook_88 at_928 rfl rfl tp_928_4 rfl ?_
                    refine e_bipush 93 dX12_readLook_91 (by decide) rfl ?_
                    refine e_dup2 94 dX12_readLook_93 rfl rfl rfl ?_
                    refine e_iald 95 dX12_readLook_94 ar_932 (by decide) (by decide) rfl (fun r94 => ?_)
                    simp (disch := omega) only [put_r6, put_w6, put_r7, put_w7, put_r9, put_w9, put_r10, put_w10, put_r11, put_w11, put_r12, put_w12, put_r13, put_w13, put_r14, put_w14, put_r15, put_w15, put_ra, put_r8, put_r0, put_rt, put_wa, u1, u2, hn8] at r94 ⊢
                    refine e_iconst 96 dX12_readLook_95 rfl ?_
                    refine e_iadd 97 dX12_readLook_96 rfl ?_
                    refine e_iast 98 dX12_readLook_97 ar_932 (by decide) (by decide) (by omega) rfl ?_
                    refine e_vret dX12_readLook_98 ?_
                    first
                      | (exfalso; omega)
                      | (rw [pLook, if_neg (by omega), if_neg (by omega), pK6, ← e6] at h
                         simp (disch := omega) only [put_r6, put_w6, put_r7, put_w7, put_r9, put_w9, put_r10, put_w10, put_r11, put_w11, put_r12, put_w12, put_r13, put_w13, put_r14, put_w14, put_r15, put_w15, put_ra, put_r8, put_r0, put_rt, put_wa, u1, u2, hn8]
                         exact h))
              · first
                 | (exfalso; omega)
                 | (skip
                    refine e_vret dX12_readLook_40 ?_
                    first
                      | (exfalso; omega)
                      | (rw [pLook, if_pos (by omega)] at h
                         rw [show pFail 4 (pFail 2 s) = pFail 2 s from if_pos p2]
                         exact h)
                      | (rw [pLook, if_pos (by omega)] at h
                         exact h)
                      | (rw [pLook, if_neg (by omega), if_pos (by omega)] at h
                         exact h))))

