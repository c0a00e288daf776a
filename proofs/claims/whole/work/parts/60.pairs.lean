/-! PAIRS: other, image, restore -/
/-- n ints of the row, copied -/
def rCp (M : jM) (dst src n : Int) : jM := fun k j => if k = 929 ∧ dst ≤ j ∧ j < dst + n then M 929 (j - dst + src) else M k j
theorem rCp_in {M : jM} {dst src n j : Int} (h0 : dst ≤ j) (h1 : j < dst + n) : rCp M dst src n 929 j = M 929 (j - dst + src) := if_pos ⟨rfl, h0, h1⟩
theorem rCp_out {M : jM} {dst src n k j : Int} (h : k ≠ 929 ∨ j < dst ∨ dst + n ≤ j) : rCp M dst src n k j = M k j := if_neg (by omega)
theorem rCp_0 {M : jM} {dst src : Int} : rCp M dst src 0 = M := by
  funext k j
  exact if_neg (by omega)
theorem rCp_s {M : jM} {dst src n : Int} (h0 : 0 ≤ n) (h : src + n < dst ∨ dst + n ≤ src + n) (h2 : src < dst ∨ dst + n ≤ src) : jset (rCp M dst src n) 929 (dst + n) (M 929 (src + n)) = rCp M dst src (n + 1) := by
  funext k j
  unfold jset rCp
  by_cases e : k = 929 ∧ j = dst + n
  · rw [if_pos e, if_pos (by omega), show j - dst + src = src + n by omega]
  · rw [if_neg e]
    by_cases e2 : k = 929 ∧ dst ≤ j ∧ j < dst + n
    · rw [if_pos e2, if_pos (by omega)]
    · rw [if_neg e2, if_neg (by omega)]
theorem sb_img {i : Int} (h0 : 0 ≤ i) (h1 : i < 2) : jSB (295 + 293 * i) := by
  rcases (by omega : i = 0 ∨ i = 1) with h | h <;> subst h
  · exact sb_1
  · exact sb_2
theorem CInv.cp {M M' : jM} {b d : Int} {a a2 : Int → Int} (h : CInv (cv M d) a) (hr : RInv a) (A : ∀ k j, RSh M b d k j → M' k j = M (k - (b - d)) j) (e : ∀ i, 0 ≤ i → i < 3920 → a2 i = a i) : CInv (cv M' b) a2 := by
  have hg := hr.1
  unfold RCnt at hg
  obtain ⟨q1, q2, q3, q4, q5, q6, q7, q8, q9, q10, q11, q12⟩ := h
  have hc := q1
  unfold CCnt cv at hc
  rw [Int.add_zero] at hc
  have hlk := q12.2.2.1
  unfold cv at hlk
  have A2 : ∀ o j, RSh M b d (b + o) j → cv M' b o j = cv M d o j := fun o j q => by
    unfold cv
    rw [A _ _ q]
    congr 1
    omega
  refine ⟨?_, ?_, ?_, ?_, ?_, ?_, ?_, ?_, ?_, ?_, ?_, ?_⟩
  · unfold CCnt at q1 ⊢
    rw [A2 0 6 (Or.inr (Or.inr (Or.inr (Or.inr (Or.inr (Or.inl (by unfold RTh; omega))))))), A2 0 8 (Or.inr (Or.inr (Or.inr (Or.inr (Or.inr (Or.inl (by unfold RTh; omega))))))), A2 0 10 (Or.inr (Or.inr (Or.inr (Or.inr (Or.inr (Or.inl (by unfold RTh; omega))))))), A2 0 12 (Or.inr (Or.inr (Or.inr (Or.inr (Or.inr (Or.inl (by unfold RTh; omega))))))), A2 0 14 (Or.inr (Or.inr (Or.inr (Or.inr (Or.inr (Or.inr (Or.inl (by omega)))))))), A2 0 19 (Or.inr (Or.inr (Or.inr (Or.inr (Or.inr (Or.inr (Or.inl (by omega)))))))), A2 0 4 (Or.inr (Or.inr (Or.inr (Or.inr (Or.inl (⟨by omega, rfl⟩)))))), A2 0 17 (Or.inr (Or.inr (Or.inr (Or.inr (Or.inr (Or.inr (Or.inr (Or.inr (Or.inr ((⟨by omega, rfl⟩))))))))))), A2 0 2 (Or.inr (Or.inr (Or.inl (⟨by omega, rfl⟩)))), e 582 (by omega) (by omega), e 643 (by omega) (by omega), e 709 (by omega) (by omega), e 1310 (by omega) (by omega), e 1761 (by omega) (by omega), e 3895 (by omega) (by omega), e 708 (by omega) (by omega), e 3608 (by omega) (by omega), e 64 (by omega) (by omega)]
    exact q1
  · have hl := hr.2.1.1
    refine ⟨by rw [A2 1 0 (Or.inl (by unfold RLw; omega)), e 0 (by omega) (by omega)]; exact q2.1, by rw [A2 1 5 (Or.inl (by unfold RLw; omega)), e (0 + 31) (by omega) (by omega)]; exact q2.2.1, fun i h0 h1 => ?_, fun i h0 h1 => ?_⟩
    · rw [e 0 (by omega) (by omega)] at h1
      rw [A2 (1 + 1) i (Or.inl (by unfold RLw; omega)), A2 (1 + 2) i (Or.inl (by unfold RLw; omega)), A2 (1 + 3) i (Or.inl (by unfold RLw; omega)), e (0 + 1 + i) (by omega) (by omega), e (0 + 9 + i) (by omega) (by omega), e (0 + 17 + i) (by omega) (by omega)]
      exact q2.2.2.1 i h0 h1
    · rw [A2 (1 + 4) i (Or.inl (by unfold RLw; omega)), e (0 + 25 + i) (by omega) (by omega)]
      exact q2.2.2.2 i h0 h1
  · have hl := hr.2.2.1.1
    refine ⟨by rw [A2 6 0 (Or.inr (Or.inl (by unfold RLw; omega))), e 32 (by omega) (by omega)]; exact q3.1, by rw [A2 6 5 (Or.inr (Or.inl (by unfold RLw; omega))), e (32 + 31) (by omega) (by omega)]; exact q3.2.1, fun i h0 h1 => ?_, fun i h0 h1 => ?_⟩
    · rw [e 32 (by omega) (by omega)] at h1
      rw [A2 (6 + 1) i (Or.inr (Or.inl (by unfold RLw; omega))), A2 (6 + 2) i (Or.inr (Or.inl (by unfold RLw; omega))), A2 (6 + 3) i (Or.inr (Or.inl (by unfold RLw; omega))), e (32 + 1 + i) (by omega) (by omega), e (32 + 9 + i) (by omega) (by omega), e (32 + 17 + i) (by omega) (by omega)]
      exact q3.2.2.1 i h0 h1
    · rw [A2 (6 + 4) i (Or.inr (Or.inl (by unfold RLw; omega))), e (32 + 25 + i) (by omega) (by omega)]
      exact q3.2.2.2 i h0 h1
  · intro k h0 h1
    rw [e 582 (by omega) (by omega)] at h1
    rw [A2 (55 + k) 0 (Or.inr (Or.inr (Or.inr (Or.inr (Or.inr (Or.inl (by unfold RTh; omega))))))), A2 (55 + k) 1 (Or.inr (Or.inr (Or.inr (Or.inr (Or.inr (Or.inl (by unfold RTh; omega))))))), A2 (55 + k) 2 (Or.inr (Or.inr (Or.inr (Or.inr (Or.inr (Or.inl (by unfold RTh; omega))))))), A2 (55 + k) 3 (Or.inr (Or.inr (Or.inr (Or.inr (Or.inr (Or.inl (by unfold RTh; omega))))))), A2 (55 + k) 4 (Or.inr (Or.inr (Or.inr (Or.inr (Or.inr (Or.inl (by unfold RTh; omega))))))), e (583 + k) (by omega) (by omega), e (595 + k) (by omega) (by omega), e (607 + k) (by omega) (by omega), e (619 + k) (by omega) (by omega), e (631 + k) (by omega) (by omega)]
    exact q4 k h0 h1
  · intro k h0 h1
    rw [e 643 (by omega) (by omega)] at h1
    rw [A2 (67 + k) 0 (Or.inr (Or.inr (Or.inr (Or.inr (Or.inr (Or.inl (by unfold RTh; omega))))))), A2 (67 + k) 1 (Or.inr (Or.inr (Or.inr (Or.inr (Or.inr (Or.inl (by unfold RTh; omega))))))), A2 (67 + k) 2 (Or.inr (Or.inr (Or.inr (Or.inr (Or.inr (Or.inl (by unfold RTh; omega))))))), A2 (67 + k) 3 (Or.inr (Or.inr (Or.inr (Or.inr (Or.inr (Or.inl (by unfold RTh; omega))))))), A2 (67 + k) 4 (Or.inr (Or.inr (Or.inr (Or.inr (Or.inr (Or.inl (by unfold RTh; omega))))))), e (644 + k) (by omega) (by omega), e (660 + k) (by omega) (by omega), e (676 + k) (by omega) (by omega), e (692 + k) (by omega) (by omega), e (3759 + k) (by omega) (by omega)]
    exact q5 k h0 h1
  · intro k h0 h1
    rw [e 709 (by omega) (by omega)] at h1
    rw [A2 (83 + k) 0 (Or.inr (Or.inr (Or.inr (Or.inr (Or.inr (Or.inl (by unfold RTh; omega))))))), A2 (83 + k) 1 (Or.inr (Or.inr (Or.inr (Or.inr (Or.inr (Or.inl (by unfold RTh; omega))))))), A2 (83 + k) 2 (Or.inr (Or.inr (Or.inr (Or.inr (Or.inr (Or.inl (by unfold RTh; omega))))))), A2 (83 + k) 3 (Or.inr (Or.inr (Or.inr (Or.inr (Or.inr (Or.inl (by unfold RTh; omega))))))), A2 (83 + k) 4 (Or.inr (Or.inr (Or.inr (Or.inr (Or.inr (Or.inl (by unfold RTh; omega))))))), A2 (83 + k) 5 (Or.inr (Or.inr (Or.inr (Or.inr (Or.inr (Or.inl (by unfold RTh; omega))))))), A2 (83 + k) 6 (Or.inr (Or.inr (Or.inr (Or.inr (Or.inr (Or.inl (by unfold RTh; omega))))))), A2 (83 + k) 7 (Or.inr (Or.inr (Or.inr (Or.inr (Or.inr (Or.inl (by unfold RTh; omega))))))), A2 (83 + k) 8 (Or.inr (Or.inr (Or.inr (Or.inr (Or.inr (Or.inl (by unfold RTh; omega))))))), A2 (83 + k) 9 (Or.inr (Or.inr (Or.inr (Or.inr (Or.inr (Or.inl (by unfold RTh; omega))))))), A2 (83 + k) 10 (Or.inr (Or.inr (Or.inr (Or.inr (Or.inr (Or.inl (by unfold RTh; omega))))))), A2 (83 + k) 11 (Or.inr (Or.inr (Or.inr (Or.inr (Or.inr (Or.inl (by unfold RTh; omega))))))), A2 (83 + k) 12 (Or.inr (Or.inr (Or.inr (Or.inr (Or.inr (Or.inl (by unfold RTh; omega))))))), e (710 + k) (by omega) (by omega), e (770 + k) (by omega) (by omega), e (830 + k) (by omega) (by omega), e (890 + k) (by omega) (by omega), e (1130 + k) (by omega) (by omega), e (950 + k) (by omega) (by omega), e (1010 + k) (by omega) (by omega), e (1070 + k) (by omega) (by omega), e (1190 + k) (by omega) (by omega), e (1250 + k) (by omega) (by omega), e (3775 + k) (by omega) (by omega), e (3835 + k) (by omega) (by omega)]
    exact q6 k h0 h1
  · intro k h0 h1
    rw [e 1310 (by omega) (by omega)] at h1
    rw [A2 (143 + k) 0 (Or.inr (Or.inr (Or.inr (Or.inr (Or.inr (Or.inl (by unfold RTh; omega))))))), A2 (143 + k) 1 (Or.inr (Or.inr (Or.inr (Or.inr (Or.inr (Or.inl (by unfold RTh; omega))))))), A2 (143 + k) 2 (Or.inr (Or.inr (Or.inr (Or.inr (Or.inr (Or.inl (by unfold RTh; omega))))))), A2 (143 + k) 3 (Or.inr (Or.inr (Or.inr (Or.inr (Or.inr (Or.inl (by unfold RTh; omega))))))), e (1311 + k) (by omega) (by omega), e (1461 + k) (by omega) (by omega), e (3609 + k) (by omega) (by omega), e (1611 + k) (by omega) (by omega)]
    exact q7 k h0 h1
  · intro k h0 h1
    rw [e 1761 (by omega) (by omega)] at h1
    rw [A2 (20 + k) 0 (Or.inr (Or.inr (Or.inr (Or.inr (Or.inr (Or.inr (Or.inl (by omega)))))))), A2 (20 + k) 1 (Or.inr (Or.inr (Or.inr (Or.inr (Or.inr (Or.inr (Or.inl (by omega)))))))), e (1762 + k) (by omega) (by omega), e (1772 + k) (by omega) (by omega)]
    exact q8 k h0 h1
  · intro k h0 h1
    rw [A2 31 k (Or.inr (Or.inr (Or.inr (Or.inr (Or.inr (Or.inr (Or.inr (Or.inl (by omega))))))))), A2 32 k (Or.inr (Or.inr (Or.inr (Or.inr (Or.inr (Or.inr (Or.inr (Or.inl (by omega))))))))), A2 33 k (Or.inr (Or.inr (Or.inr (Or.inr (Or.inr (Or.inr (Or.inr (Or.inl (by omega))))))))), A2 34 k (Or.inr (Or.inr (Or.inr (Or.inr (Or.inr (Or.inr (Or.inr (Or.inl (by omega))))))))), A2 35 k (Or.inr (Or.inr (Or.inr (Or.inr (Or.inr (Or.inr (Or.inr (Or.inl (by omega))))))))), A2 36 k (Or.inr (Or.inr (Or.inr (Or.inr (Or.inr (Or.inr (Or.inr (Or.inl (by omega))))))))), e (1782 + k) (by omega) (by omega), e (2083 + k) (by omega) (by omega), e (2384 + k) (by omega) (by omega), e (2685 + k) (by omega) (by omega), e (2986 + k) (by omega) (by omega), e (3287 + k) (by omega) (by omega)]
    exact q9 k h0 h1
  · intro k j h0 h1 h2 h3
    rw [A2 (38 + k) j (Or.inr (Or.inr (Or.inr (Or.inr (Or.inr (Or.inr (Or.inr (Or.inr (Or.inl (by omega)))))))))), e (3588 + 5 * k + j) (by omega) (by omega)]
    exact q10 k j h0 h1 h2 h3
  · intro k h0 h1
    rw [e 3895 (by omega) (by omega)] at h1
    rw [A2 (43 + k) 0 (Or.inr (Or.inr (Or.inr (Or.inr (Or.inr (Or.inr (Or.inl (by omega)))))))), A2 (43 + k) 1 (Or.inr (Or.inr (Or.inr (Or.inr (Or.inr (Or.inr (Or.inl (by omega)))))))), e (3896 + k) (by omega) (by omega), e (3908 + k) (by omega) (by omega)]
    exact q11 k h0 h1
  · have hl := hr.2.2.2.2.2.2.2.2.2.2.1
    have hl2 := hr.2.2.2.2.2.2.2.2.2.2.2
    obtain ⟨z1, z2, z3, z4, z5⟩ := q12
    refine ⟨by rw [A2 11 0 (Or.inr (Or.inr (Or.inr (Or.inl (by unfold RLk; omega))))), e 65 (by omega) (by omega)]; exact z1, by rw [A2 (11 + 1) 0 (Or.inr (Or.inr (Or.inr (Or.inl (by unfold RLk; omega)))))]; exact z2, by rw [A2 11 1 (Or.inr (Or.inr (Or.inr (Or.inl (by unfold RLk; omega)))))]; exact z3, fun j h0 h1 => ?_, fun i h0 h1 => ?_⟩
    · rw [e 65 (by omega) (by omega)] at h1
      rw [A2 (11 + 1) j (Or.inr (Or.inr (Or.inr (Or.inl (by unfold RLk; omega))))), A2 (11 + 1) (j + 1) (Or.inr (Or.inr (Or.inr (Or.inl (by unfold RLk; omega))))), A2 11 1 (Or.inr (Or.inr (Or.inr (Or.inl (by unfold RLk; omega))))), e (66 + j) (by omega) (by omega), e (74 + j) (by omega) (by omega)]
      exact z4 j h0 h1
    · rw [A2 11 1 (Or.inr (Or.inr (Or.inr (Or.inl (by unfold RLk; omega)))))] at h1
      have h2 : i < 250 := by
        have := z3.2
        unfold cv at *
        omega
      have h3 : i < M (d + 11) 1 := h1
      rw [A2 (11 + 2) i (Or.inr (Or.inr (Or.inr (Or.inl (by unfold RLk; omega))))), A2 (11 + 3) i (Or.inr (Or.inr (Or.inr (Or.inl (by unfold RLk; omega))))), e (82 + 2 * i) (by omega) (by omega), e (83 + 2 * i) (by omega) (by omega)]
      exact z5 i h0 h1
theorem cp_hyp {M : jM} {d : Int} {a : Int → Int} (h : CInv (cv M d) a) (hr : RInv a) : (0 ≤ M d 6 ∧ M d 6 ≤ 12) ∧ (0 ≤ M d 8 ∧ M d 8 ≤ 16) ∧ (0 ≤ M d 10 ∧ M d 10 ≤ 60) ∧ (0 ≤ M d 12 ∧ M d 12 ≤ 150) ∧ (∀ i, 0 ≤ i → i < M d 6 → M (d + (55 + i)) 4 = 0 ∨ M (d + (55 + i)) 4 = 1) ∧ (∀ i, 0 ≤ i → i < M d 12 → M (d + (143 + i)) 3 = 0 ∨ M (d + (143 + i)) 3 = 1) ∧ (0 ≤ M (d + 11) 1 ∧ M (d + 11) 1 ≤ 400) ∧ (M d 2 = 0 ∨ M d 2 = 1) := by
  have hg := hr.1
  unfold RCnt at hg
  have hc := h.1
  unfold CCnt cv at hc
  rw [Int.add_zero] at hc
  have hlk : 0 ≤ M (d + 11) 1 ∧ M (d + 11) 1 ≤ 250 := h.2.2.2.2.2.2.2.2.2.2.2.2.2.1
  refine ⟨by omega, by omega, by omega, by omega, fun i h0 h1 => ?_, fun i h0 h1 => ?_, by omega, by omega⟩
  · have q := h.2.2.2.1 i h0 (by omega)
    have q2 := hr.2.2.2.1 i h0 (by omega)
    unfold cv at q
    omega
  · have q := h.2.2.2.2.2.2.1 i h0 (by omega)
    have q2 := hr.2.2.2.2.2.2.2.1 i h0 (by omega)
    unfold cv at q
    omega
theorem c_image {i : Int} {M : jM} {Q : Int → jM → Prop} (hI : Inv M) (hi : -2147483648 ≤ i ∧ i ≤ 2147483647) (h2 : i < 0 ∨ 1 < i → Q (-2) M) (h0 : 0 ≤ i ∧ i ≤ 1 → ∀ M' : jM, (∀ k j, (RSh M (295 + 293 * i) 1 k j) → M' k j = M (k - (295 + 293 * i - 1)) j) → (∀ k j, ¬ (RSh M (295 + 293 * i) 1 k j) → M' k j = M k j) → Q 0 (jset M' 881 i 1)) : jCt yX11_image cX11_image 2 (some .int) 4 [jR 0, jI i] M Q := by
  refine jCt_of mt_yX11_image (Nat.le_of_ble_eq_true rfl) (fun X => ?_)
  refine e_iload_n (i := 1) 1 dX11_image_0 rfl rfl rfl ?_
  refine e_iconst 2 dX11_image_1 rfl ?_
  refine e_iconst 3 dX11_image_2 rfl ?_
  refine e_callS 6 mt_yX11_within ms_yX11_within wd_531 (by decide) dX11_image_3 rfl rfl (Nat.le_of_ble_eq_true rfl) (jroom (by decide)) rfl (c_within (by omega) (by omega) (by omega) (fun w3 => ?_) (fun w3 => ?_))
  · dsimp only [jpush]
    refine e_if_ne 9 12 dX11_image_6 (by decide) (by decide) rfl (fun _ => ?_) (fun h => absurd h (by decide))
    have hh := cp_hyp (d := 1) hI.2.2.1 hI.2.1
    refine e_aload_n (i := 0) 13 dX11_image_12 rfl rfl rfl ?_
    refine e_getr (j := 1) 16 fl_11_16 dX11_image_13 at_0 rfl rfl tp_0_1 rfl ?_
    refine e_iload_n (i := 1) 17 dX11_image_16 rfl rfl rfl ?_
    refine e_aald 18 dX11_image_17 ar_294 (by decide) (by omega) (by omega) (tp_image (by omega) (by omega)) rfl ?_
    refine e_aload_n (i := 0) 19 dX11_image_18 rfl rfl rfl ?_
    refine e_getr (j := 0) 22 fl_11_10 dX11_image_19 at_0 rfl rfl tp_0_0 rfl ?_
    refine e_callV 25 mt_yX8_copyFrom mv_yX8_copyFrom wd_1227 (by decide) dX11_image_22 (at_image (by omega) (by omega)) jc_8 rfl rfl rfl (Nat.le_of_ble_eq_true rfl) (jroom (by decide)) rfl (c_copyShop (sb_img (by omega) (by omega)) sb_0 (by omega) hh.1 hh.2.1 hh.2.2.1 hh.2.2.2.1 hh.2.2.2.2.1 hh.2.2.2.2.2.1 hh.2.2.2.2.2.2.1 hh.2.2.2.2.2.2.2 (fun M22 A22 N22 => ?_))
    dsimp only [jpush]
    refine e_aload_n (i := 0) 26 dX11_image_25 rfl rfl rfl ?_
    refine e_getr (j := 2) 29 fl_11_20 dX11_image_26 at_0 rfl rfl tp_0_2 rfl ?_
    refine e_iload_n (i := 1) 30 dX11_image_29 rfl rfl rfl ?_
    refine e_iconst 31 dX11_image_30 rfl ?_
    refine e_zast 32 dX11_image_31 ar_881 (by omega) (by omega) (by decide) rfl ?_
    refine e_iconst 33 dX11_image_32 rfl ?_
    refine e_iret dX11_image_33 ?_
    exact h0 (by omega) _ A22 N22
  · dsimp only [jpush]
    refine e_if_ne 9 12 dX11_image_6 (by decide) (by decide) rfl (fun h => absurd h (by decide)) (fun _ => ?_)
    refine e_bipush 11 dX11_image_9 (by decide) rfl ?_
    refine e_iret dX11_image_11 ?_
    exact h2 (by omega)

theorem c_restore {i : Int} {M : jM} {Q : Int → jM → Prop} (hI : Inv M) (hi : -2147483648 ≤ i ∧ i ≤ 2147483647) (h2 : i < 0 ∨ 1 < i → Q (-2) M) (h5 : (0 ≤ i ∧ i ≤ 1) ∧ M 930 i ≠ 1 → Q (-5) M) (h0 : (0 ≤ i ∧ i ≤ 1) ∧ M 930 i = 1 → ∀ M' : jM, (∀ k j, (RSh M 1 (295 + 293 * i) k j) → M' k j = M (k - (1 - (295 + 293 * i))) j) → (∀ k j, ¬ (RSh M 1 (295 + 293 * i) k j) → M' k j = M k j) → Q 0 M') : jCt yX11_restore cX11_restore 2 (some .int) 4 [jR 0, jI i] M Q := by
  refine jCt_of mt_yX11_restore (Nat.le_of_ble_eq_true rfl) (fun X => ?_)
  refine e_iload_n (i := 1) 1 dX11_restore_0 rfl rfl rfl ?_
  refine e_iconst 2 dX11_restore_1 rfl ?_
  refine e_iconst 3 dX11_restore_2 rfl ?_
  refine e_callS 6 mt_yX11_within ms_yX11_within wd_531 (by decide) dX11_restore_3 rfl rfl (Nat.le_of_ble_eq_true rfl) (jroom (by decide)) rfl (c_within (by omega) (by omega) (by omega) (fun w3 => ?_) (fun w3 => ?_))
  · dsimp only [jpush]
    refine e_if_ne 9 12 dX11_restore_6 (by decide) (by decide) rfl (fun _ => ?_) (fun h => absurd h (by decide))
    have hm := hI.2.2.2.2.2.2 i (by omega) (by omega)
    refine e_aload_n (i := 0) 13 dX11_restore_12 rfl rfl rfl ?_
    refine e_getr (j := 2) 16 fl_11_20 dX11_restore_13 at_0 rfl rfl tp_0_2 rfl ?_
    refine e_iload_n (i := 1) 17 dX11_restore_16 rfl rfl rfl ?_
    refine e_zald 18 dX11_restore_17 ar_881 (by omega) (by omega) rfl (fun r17 => ?_)
    refine e_if_ne 21 24 dX11_restore_18 (by omega) (by decide) rfl (fun b18 => ?_) (fun b18 => ?_)
    · skip
      have hg2 := hm.2.2 (by omega)
      have hh := cp_hyp (d := 295 + 293 * i) hg2.2 hg2.1
      refine e_aload_n (i := 0) 25 dX11_restore_24 rfl rfl rfl ?_
      refine e_getr (j := 0) 28 fl_11_10 dX11_restore_25 at_0 rfl rfl tp_0_0 rfl ?_
      refine e_aload_n (i := 0) 29 dX11_restore_28 rfl rfl rfl ?_
      refine e_getr (j := 1) 32 fl_11_16 dX11_restore_29 at_0 rfl rfl tp_0_1 rfl ?_
      refine e_iload_n (i := 1) 33 dX11_restore_32 rfl rfl rfl ?_
      refine e_aald 34 dX11_restore_33 ar_294 (by decide) (by omega) (by omega) (tp_image (by omega) (by omega)) rfl ?_
      refine e_callV 37 mt_yX8_copyFrom mv_yX8_copyFrom wd_1227 (by decide) dX11_restore_34 at_1 jc_8 rfl rfl rfl (Nat.le_of_ble_eq_true rfl) (jroom (by decide)) rfl (c_copyShop sb_0 (sb_img (by omega) (by omega)) (by omega) hh.1 hh.2.1 hh.2.2.1 hh.2.2.2.1 hh.2.2.2.2.1 hh.2.2.2.2.2.1 hh.2.2.2.2.2.2.1 hh.2.2.2.2.2.2.2 (fun M34 A34 N34 => ?_))
      dsimp only [jpush]
      refine e_iconst 38 dX11_restore_37 rfl ?_
      refine e_iret dX11_restore_38 ?_
      exact h0 (by omega) _ A34 N34
    · skip
      refine e_bipush 23 dX11_restore_21 (by decide) rfl ?_
      refine e_iret dX11_restore_23 ?_
      exact h5 (by omega)
  · dsimp only [jpush]
    refine e_if_ne 9 12 dX11_restore_6 (by decide) (by decide) rfl (fun h => absurd h (by decide)) (fun _ => ?_)
    refine e_bipush 11 dX11_restore_9 (by decide) rfl ?_
    refine e_iret dX11_restore_11 ?_
    exact h2 (by omega)

theorem lm_image {X : jX} {i : Int} {M : jM} {Q : Int → jM → Prop} (hi : 0 ≤ i ∧ i < 2) (h : jE X yX12_image cX12_image 3 (some .int) 2 Q (rCp M (3920 * (i + 1)) (0) 3920) 53 [(0, jR 928), (1, jI i)] []) : ∀ (f : Nat) (ii : Int), 0 ≤ ii → ii + f = 3920 → jE X yX12_image cX12_image 3 (some .int) 2 Q (rCp M (3920 * (i + 1)) (0) ii) 20 [(0, jR 928), (1, jI i), (2, jI ii)] [] := by
  intro f
  induction f with
  | zero =>
    intro ii h0 hi2
    have e : ii = 3920 := by omega
    subst e
    refine e_iload_n (i := 2) 21 dX12_image_20 rfl rfl rfl ?_
    refine e_sipush 24 dX12_image_21 (by decide) rfl ?_
    refine e_icmp_ge 27 53 dX12_image_24 (by omega) (by decide) (by decide) rfl (fun b24 => ?_) (fun b24 => ?_)
    · skip
      refine e_ls (ls2 := [(0, _), (1, _)]) rfl ?_
      exact h
    · omega
  | succ f ih =>
    intro ii h0 hi2
    refine e_iload_n (i := 2) 21 dX12_image_20 rfl rfl rfl ?_
    refine e_sipush 24 dX12_image_21 (by decide) rfl ?_
    refine e_icmp_ge 27 53 dX12_image_24 (by omega) (by decide) (by decide) rfl (fun b24 => ?_) (fun b24 => ?_)
    · omega
    · skip
      refine e_aload_n (i := 0) 28 dX12_image_27 rfl rfl rfl ?_
      refine e_getr (j := 1) 31 fl_12_13 dX12_image_28 at_928 rfl rfl tp_928_1 rfl ?_
      refine e_sipush 34 dX12_image_31 (by decide) rfl ?_
      refine e_iload_n (i := 1) 35 dX12_image_34 rfl rfl rfl ?_
      refine e_iconst 36 dX12_image_35 rfl ?_
      refine e_iadd 37 dX12_image_36 rfl ?_
      refine e_imul 38 dX12_image_37 rfl ?_
      refine e_iload_n (i := 2) 39 dX12_image_38 rfl rfl rfl ?_
      refine e_iadd 40 dX12_image_39 rfl ?_
      refine e_aload_n (i := 0) 41 dX12_image_40 rfl rfl rfl ?_
      refine e_getr (j := 1) 44 fl_12_13 dX12_image_41 at_928 rfl rfl tp_928_1 rfl ?_
      refine e_iload_n (i := 2) 45 dX12_image_44 rfl rfl rfl ?_
      refine e_iald 46 dX12_image_45 ar_929 (by omega) (by omega) rfl (fun r45 => ?_)
      rw [rCp_out (by omega)] at r45 ⊢
      refine e_iast 47 dX12_image_46 ar_929 (by omega) (by omega) (by omega) rfl ?_
      refine e_iinc (lsn := [(2, _), (0, _), (1, _)]) 50 dX12_image_47 rfl (by decide) rfl rfl ?_
      refine e_goto 20 dX12_image_50 (by decide) ?_
      refine e_ls (ls2 := [(0, _), (1, _), (2, _)]) rfl ?_
      have e := rCp_s (M := M) (dst := 3920 * (i + 1)) (src := 0) (n := ii) h0 (by omega) (by omega)
      rw [Int.zero_add] at e
      rw [e]
      exact ih (ii + 1) (by omega) (by omega)

theorem lm_restore {X : jX} {i : Int} {M : jM} {Q : Int → jM → Prop} (hi : 0 ≤ i ∧ i < 2) (h : jE X yX12_restore cX12_restore 3 (some .int) 2 Q (rCp M (0) (3920 * (i + 1)) 3920) 65 [(0, jR 928), (1, jI i)] []) : ∀ (f : Nat) (ii : Int), 0 ≤ ii → ii + f = 3920 → jE X yX12_restore cX12_restore 3 (some .int) 2 Q (rCp M (0) (3920 * (i + 1)) ii) 32 [(0, jR 928), (1, jI i), (2, jI ii)] [] := by
  intro f
  induction f with
  | zero =>
    intro ii h0 hi2
    have e : ii = 3920 := by omega
    subst e
    refine e_iload_n (i := 2) 33 dX12_restore_32 rfl rfl rfl ?_
    refine e_sipush 36 dX12_restore_33 (by decide) rfl ?_
    refine e_icmp_ge 39 65 dX12_restore_36 (by omega) (by decide) (by decide) rfl (fun b36 => ?_) (fun b36 => ?_)
    · skip
      refine e_ls (ls2 := [(0, _), (1, _)]) rfl ?_
      exact h
    · omega
  | succ f ih =>
    intro ii h0 hi2
    refine e_iload_n (i := 2) 33 dX12_restore_32 rfl rfl rfl ?_
    refine e_sipush 36 dX12_restore_33 (by decide) rfl ?_
    refine e_icmp_ge 39 65 dX12_restore_36 (by omega) (by decide) (by decide) rfl (fun b36 => ?_) (fun b36 => ?_)
    · omega
    · skip
      refine e_aload_n (i := 0) 40 dX12_restore_39 rfl rfl rfl ?_
      refine e_getr (j := 1) 43 fl_12_13 dX12_restore_40 at_928 rfl rfl tp_928_1 rfl ?_
      refine e_iload_n (i := 2) 44 dX12_restore_43 rfl rfl rfl ?_
      refine e_aload_n (i := 0) 45 dX12_restore_44 rfl rfl rfl ?_
      refine e_getr (j := 1) 48 fl_12_13 dX12_restore_45 at_928 rfl rfl tp_928_1 rfl ?_
      refine e_sipush 51 dX12_restore_48 (by decide) rfl ?_
      refine e_iload_n (i := 1) 52 dX12_restore_51 rfl rfl rfl ?_
      refine e_iconst 53 dX12_restore_52 rfl ?_
      refine e_iadd 54 dX12_restore_53 rfl ?_
      refine e_imul 55 dX12_restore_54 rfl ?_
      refine e_iload_n (i := 2) 56 dX12_restore_55 rfl rfl rfl ?_
      refine e_iadd 57 dX12_restore_56 rfl ?_
      refine e_iald 58 dX12_restore_57 ar_929 (by omega) (by omega) rfl (fun r57 => ?_)
      rw [rCp_out (by omega)] at r57 ⊢
      refine e_iast 59 dX12_restore_58 ar_929 (by omega) (by omega) (by omega) rfl ?_
      refine e_iinc (lsn := [(2, _), (0, _), (1, _)]) 62 dX12_restore_59 rfl (by decide) rfl rfl ?_
      refine e_goto 32 dX12_restore_62 (by decide) ?_
      refine e_ls (ls2 := [(0, _), (1, _), (2, _)]) rfl ?_
      have e := rCp_s (M := M) (dst := 0) (src := 3920 * (i + 1)) (n := ii) h0 (by omega) (by omega)
      rw [Int.zero_add] at e
      rw [e]
      exact ih (ii + 1) (by omega) (by omega)

theorem m_image {i : Int} {M : jM} {Q : Int → jM → Prop} (ht : M 928 0 = 0) (hi : -2147483648 ≤ i ∧ i ≤ 2147483647) (h2 : i < 0 ∨ 1 < i → Q (-2) M) (h0 : 0 ≤ i ∧ i ≤ 1 → Q 0 (jset (rCp M (3920 * (i + 1)) 0 3920) 930 i 1)) : jCt yX12_image cX12_image 3 (some .int) 2 [jR 928, jI i] M Q := by
  refine jCt_of mt_yX12_image (Nat.le_of_ble_eq_true rfl) (fun X => ?_)
  refine e_aload_n (i := 0) 1 dX12_image_0 rfl rfl rfl ?_
  refine e_iconst 2 dX12_image_1 rfl ?_
  refine e_put0 (j := 0) 5 fl_12_1 dX12_image_2 at_928 rfl rfl rfl (by decide) ht rfl ?_
  refine e_iload_n (i := 1) 6 dX12_image_5 rfl rfl rfl ?_
  refine e_i2l 7 dX12_image_6 (by omega) rfl ?_
  refine e_lconst0 8 dX12_image_7 rfl ?_
  refine e_lconst1 9 dX12_image_8 rfl ?_
  refine e_callS 12 mt_yX12_within ms_yX12_within wd_1390 (by decide) dX12_image_9 rfl rfl (Nat.le_of_ble_eq_true rfl) (jroom (by decide)) rfl (m_within (by omega) (by omega) (by omega) (fun w9 => ?_) (fun w9 => ?_))
  · dsimp only [jpush]
    refine e_if_ne 15 18 dX12_image_12 (by decide) (by decide) rfl (fun _ => ?_) (fun h => absurd h (by decide))
    refine e_iconst 19 dX12_image_18 rfl ?_
    refine e_istore_n (i := 2) (lsn := [(2, _), (0, _), (1, _)]) 20 dX12_image_19 rfl (by decide) rfl rfl ?_
    refine e_ls (ls2 := [(0, _), (1, _), (2, _)]) rfl ?_
    refine Eq.subst (motive := fun x => jE X yX12_image cX12_image 3 (some .int) 2 Q x 20 [(0, jR 928), (1, jI i), (2, jI 0)] []) (rCp_0 (dst := 3920 * (i + 1)) (src := 0)) (lm_image (by omega) ?_ 3920 0 (by omega) (by omega))
    refine e_aload_n (i := 0) 54 dX12_image_53 rfl rfl rfl ?_
    refine e_getr (j := 2) 57 fl_12_17 dX12_image_54 at_928 rfl rfl tp_928_2 rfl ?_
    refine e_iload_n (i := 1) 58 dX12_image_57 rfl rfl rfl ?_
    refine e_iconst 59 dX12_image_58 rfl ?_
    refine e_zast 60 dX12_image_59 ar_930 (by omega) (by omega) (by decide) rfl ?_
    refine e_iconst 61 dX12_image_60 rfl ?_
    refine e_iret dX12_image_61 ?_
    exact h0 (by omega)
  · dsimp only [jpush]
    refine e_if_ne 15 18 dX12_image_12 (by decide) (by decide) rfl (fun h => absurd h (by decide)) (fun _ => ?_)
    refine e_bipush 17 dX12_image_15 (by decide) rfl ?_
    refine e_iret dX12_image_17 ?_
    exact h2 (by omega)

theorem m_restore {i : Int} {M : jM} {Q : Int → jM → Prop} (ht : M 928 0 = 0) (hi : -2147483648 ≤ i ∧ i ≤ 2147483647) (hz : ∀ q, 0 ≤ q → q < 2 → 0 ≤ M 930 q ∧ M 930 q ≤ 1) (h2 : i < 0 ∨ 1 < i → Q (-2) M) (h5 : (0 ≤ i ∧ i ≤ 1) ∧ M 930 i ≠ 1 → Q (-5) M) (h0 : (0 ≤ i ∧ i ≤ 1) ∧ M 930 i = 1 → Q 0 (rCp M 0 (3920 * (i + 1)) 3920)) : jCt yX12_restore cX12_restore 3 (some .int) 2 [jR 928, jI i] M Q := by
  refine jCt_of mt_yX12_restore (Nat.le_of_ble_eq_true rfl) (fun X => ?_)
  refine e_aload_n (i := 0) 1 dX12_restore_0 rfl rfl rfl ?_
  refine e_iconst 2 dX12_restore_1 rfl ?_
  refine e_put0 (j := 0) 5 fl_12_1 dX12_restore_2 at_928 rfl rfl rfl (by decide) ht rfl ?_
  refine e_iload_n (i := 1) 6 dX12_restore_5 rfl rfl rfl ?_
  refine e_i2l 7 dX12_restore_6 (by omega) rfl ?_
  refine e_lconst0 8 dX12_restore_7 rfl ?_
  refine e_lconst1 9 dX12_restore_8 rfl ?_
  refine e_callS 12 mt_yX12_within ms_yX12_within wd_1390 (by decide) dX12_restore_9 rfl rfl (Nat.le_of_ble_eq_true rfl) (jroom (by decide)) rfl (m_within (by omega) (by omega) (by omega) (fun w9 => ?_) (fun w9 => ?_))
  · dsimp only [jpush]
    refine e_if_ne 15 18 dX12_restore_12 (by decide) (by decide) rfl (fun _ => ?_) (fun h => absurd h (by decide))
    have hz2 := hz i (by omega) (by omega)
    refine e_aload_n (i := 0) 19 dX12_restore_18 rfl rfl rfl ?_
    refine e_getr (j := 2) 22 fl_12_17 dX12_restore_19 at_928 rfl rfl tp_928_2 rfl ?_
    refine e_iload_n (i := 1) 23 dX12_restore_22 rfl rfl rfl ?_
    refine e_zald 24 dX12_restore_23 ar_930 (by omega) (by omega) rfl (fun r23 => ?_)
    refine e_if_ne 27 30 dX12_restore_24 (by omega) (by decide) rfl (fun b24 => ?_) (fun b24 => ?_)
    · skip
      refine e_iconst 31 dX12_restore_30 rfl ?_
      refine e_istore_n (i := 2) (lsn := [(2, _), (0, _), (1, _)]) 32 dX12_restore_31 rfl (by decide) rfl rfl ?_
      refine e_ls (ls2 := [(0, _), (1, _), (2, _)]) rfl ?_
      refine Eq.subst (motive := fun x => jE X yX12_restore cX12_restore 3 (some .int) 2 Q x 32 [(0, jR 928), (1, jI i), (2, jI 0)] []) (rCp_0 (dst := 0) (src := 3920 * (i + 1))) (lm_restore (by omega) ?_ 3920 0 (by omega) (by omega))
      refine e_iconst 66 dX12_restore_65 rfl ?_
      refine e_iret dX12_restore_66 ?_
      exact h0 (by omega)
    · skip
      refine e_bipush 29 dX12_restore_27 (by decide) rfl ?_
      refine e_iret dX12_restore_29 ?_
      first | exact h2 (by omega) | exact h5 (by omega)
  · dsimp only [jpush]
    refine e_if_ne 15 18 dX12_restore_12 (by decide) (by decide) rfl (fun h => absurd h (by decide)) (fun _ => ?_)
    refine e_bipush 17 dX12_restore_15 (by decide) rfl ?_
    refine e_iret dX12_restore_17 ?_
    first | exact h2 (by omega) | exact h5 (by omega)

theorem p_image {M : jM} (hI : Inv M) {i : Int} (hi : -2147483648 ≤ i ∧ i ≤ 2147483647) : jCt yX11_image cX11_image 2 (some .int) 4 [jR 0, jI i] M (fun z M1 => jCt yX12_image cX12_image 3 (some .int) 2 [jR 928, jI i] M1 (fun z2 M2 => z = z2 ∧ Inv M2)) := by
  refine c_image hI hi (fun w => ?_) (fun w M' A N => ?_)
  · exact m_image hI.1 hi (fun _ => ⟨rfl, hI⟩) (fun w2 => by omega)
  · have hh := cp_hyp (d := 1) hI.2.2.1 hI.2.1
    have hmem : ∀ k j, RSh M (295 + 293 * i) 1 k j → 295 + 293 * i ≤ k ∧ k < 295 + 293 * i + 293 := fun k j q => RSh.mem hh.1.2 hh.2.1.2 hh.2.2.1.2 hh.2.2.2.1.2 q
    have o1 : ∀ k j, (k < 295 + 293 * i ∨ 295 + 293 * i + 293 ≤ k) → M' k j = M k j := fun k j q => N k j (fun z => by have := hmem k j z; omega)
    refine m_image (by rw [jset_k (by omega), o1 _ _ (by omega)]; exact hI.1) hi (fun w2 => by omega) (fun _ => ⟨rfl, ?_⟩)
    have e1 : ∀ k j, (k < 295 + 293 * i ∨ 295 + 293 * i + 293 ≤ k) → k ≠ 881 → k ≠ 929 → k ≠ 930 → jset (rCp (jset M' 881 i 1) (3920 * (i + 1)) 0 3920) 930 i 1 k j = M k j := fun k j a b c d => by
      rw [jset_k d, rCp_out (Or.inl c), jset_k b, o1 k j a]
    have e2 : ∀ k j, 295 + 293 * i ≤ k → k < 295 + 293 * i + 293 → jset (rCp (jset M' 881 i 1) (3920 * (i + 1)) 0 3920) 930 i 1 k j = M' k j := fun k j a b => by
      rw [jset_k (by omega), rCp_out (Or.inl (by omega)), jset_k (by omega)]
    have e3 : ∀ j, (j < 3920 * (i + 1) ∨ 3920 * (i + 1) + 3920 ≤ j) → jset (rCp (jset M' 881 i 1) (3920 * (i + 1)) 0 3920) 930 i 1 929 j = M 929 j := fun j a => by
      rw [jset_k (by omega), rCp_out (Or.inr a), jset_k (by omega), o1 _ _ (by omega)]
    have e4 : ∀ j, 0 ≤ j → j < 3920 → jset (rCp (jset M' 881 i 1) (3920 * (i + 1)) 0 3920) 930 i 1 929 (3920 * (i + 1) + j) = M 929 j := fun j a b => by
      rw [jset_k (by omega), rCp_in (by omega) (by omega), jset_k (by omega), o1 _ _ (by omega)]
      congr 1
      omega
    have e5 : ∀ q, jset (rCp (jset M' 881 i 1) (3920 * (i + 1)) 0 3920) 930 i 1 881 q = if q = i then 1 else M 881 q := fun q => by
      rw [jset_k (by omega), rCp_out (Or.inl (by omega))]
      by_cases e : q = i
      · rw [if_pos e, e, jset_same]
      · rw [if_neg e, jset_j e, o1 _ _ (by omega)]
    have e6 : ∀ q, jset (rCp (jset M' 881 i 1) (3920 * (i + 1)) 0 3920) 930 i 1 930 q = if q = i then 1 else M 930 q := fun q => by
      by_cases e : q = i
      · rw [if_pos e, e, jset_same]
      · rw [if_neg e, jset_j e, rCp_out (Or.inl (by omega)), jset_k (by omega), o1 _ _ (by omega)]
    generalize jset (rCp (jset M' 881 i 1) (3920 * (i + 1)) 0 3920) 930 i 1 = M2 at *
    obtain ⟨h1, h2, h3, h4, h5, h6, h7⟩ := hI
    refine ⟨by rw [e1 _ _ (by omega) (by omega) (by omega) (by omega)]; exact h1, h2.fr (fun k a b => e3 k (by omega)), h3.fr h2 (fun k j a b => e1 _ j (by omega) (by omega) (by omega) (by omega)) (fun k a b => e3 k (by omega)), ?_, ?_, ?_, ?_⟩
    · have q1 := fun j => e1 883 j (by omega) (by omega) (by omega) (by omega)
      have q2 := fun j => e1 931 j (by omega) (by omega) (by omega) (by omega)
      have q3 := fun j => e1 884 j (by omega) (by omega) (by omega) (by omega)
      have q4 := fun j => e1 928 j (by omega) (by omega) (by omega) (by omega)
      unfold ITape at h4 ⊢
      simp only [q1, q2, q3, q4]
      exact h4
    · have q1 := fun j => e1 882 j (by omega) (by omega) (by omega) (by omega)
      have q4 := fun j => e1 928 j (by omega) (by omega) (by omega) (by omega)
      have q5 := fun j => e1 891 j (by omega) (by omega) (by omega) (by omega)
      unfold IFault at h5 ⊢
      simp only [q1, q4, q5]
      exact h5
    · intro r r0 r1
      have h8 := h6 r r0 r1
      rw [e1 (895 + 2 * r) _ (by omega) (by omega) (by omega) (by omega), e1 946 _ (by omega) (by omega) (by omega) (by omega), e1 947 _ (by omega) (by omega) (by omega) (by omega), e1 (895 + 2 * r) _ (by omega) (by omega) (by omega) (by omega)]
      refine h8.imp id (fun h => ⟨h.1, h.2.1, h.2.2.1, h.2.2.2.1, fun x x0 x1 => ?_⟩)
      rw [e1 (896 + 2 * r) _ (by omega) (by omega) (by omega) (by omega), e1 948 _ (by omega) (by omega) (by omega) (by omega)]
      exact h.2.2.2.2 x x0 x1
    · intro q q0 q1
      rw [e5, e6]
      have h8 := h7 q q0 q1
      by_cases e : q = i
      · rw [if_pos e, if_pos e, e]
        refine ⟨rfl, by omega, fun _ => ⟨h2.fr (fun k a b => e4 k a b), ?_⟩⟩
        refine CInv.cp (M := M) (M' := M2) (b := 295 + 293 * i) (d := 1) h3 h2 (fun k j r => ?_) (fun k a b => e4 k a b)
        have hq := hmem k j r
        rw [e2 k j (by omega) (by omega)]
        exact A k j r
      · rw [if_neg e, if_neg e]
        refine ⟨h8.1, h8.2.1, fun h9 => ?_⟩
        have h10 := h8.2.2 h9
        exact ⟨h10.1.fr (fun k a b => e3 _ (by omega)), h10.2.fr h10.1 (fun k j a b => e1 _ j (by omega) (by omega) (by omega) (by omega)) (fun k a b => e3 _ (by omega))⟩

theorem p_restore {M : jM} (hI : Inv M) {i : Int} (hi : -2147483648 ≤ i ∧ i ≤ 2147483647) : jCt yX11_restore cX11_restore 2 (some .int) 4 [jR 0, jI i] M (fun z M1 => jCt yX12_restore cX12_restore 3 (some .int) 2 [jR 928, jI i] M1 (fun z2 M2 => z = z2 ∧ Inv M2)) := by
  have hz : ∀ q, 0 ≤ q → q < 2 → 0 ≤ M 930 q ∧ M 930 q ≤ 1 := fun q a b => (hI.2.2.2.2.2.2 q a b).2.1
  refine c_restore hI hi (fun w => ?_) (fun w => ?_) (fun w M' A N => ?_)
  · exact m_restore hI.1 hi hz (fun _ => ⟨rfl, hI⟩) (fun w2 => by omega) (fun w2 => by omega)
  · exact m_restore hI.1 hi hz (fun w2 => by omega) (fun _ => ⟨rfl, hI⟩) (fun w2 => by omega)
  · have hm0 := (hI.2.2.2.2.2.2 i (by omega) (by omega)).2.2 (by omega)
    have hh := cp_hyp (d := 295 + 293 * i) hm0.2 hm0.1
    have hmem : ∀ k j, RSh M 1 (295 + 293 * i) k j → 1 ≤ k ∧ k < 1 + 293 := fun k j q => RSh.mem hh.1.2 hh.2.1.2 hh.2.2.1.2 hh.2.2.2.1.2 q
    have o1 : ∀ k j, (k < 1 ∨ 294 ≤ k) → M' k j = M k j := fun k j q => N k j (fun z => by have := hmem k j z; omega)
    have z9 : ∀ q, M' 930 q = M 930 q := fun q => o1 _ _ (by omega)
    refine m_restore (by rw [o1 _ _ (by omega)]; exact hI.1) hi (fun q a b => by rw [z9]; exact hz q a b) (fun w2 => by omega) (fun w2 => by rw [z9] at w2; omega) (fun _ => ⟨rfl, ?_⟩)
    have e1 : ∀ k j, (k < 1 ∨ 294 ≤ k) → k ≠ 929 → rCp M' 0 (3920 * (i + 1)) 3920 k j = M k j := fun k j a b => by
      rw [rCp_out (Or.inl b), o1 k j a]
    have e2 : ∀ k j, 1 ≤ k → k < 294 → rCp M' 0 (3920 * (i + 1)) 3920 k j = M' k j := fun k j a b => by
      rw [rCp_out (Or.inl (by omega))]
    have e3 : ∀ j, 3920 ≤ j → rCp M' 0 (3920 * (i + 1)) 3920 929 j = M 929 j := fun j a => by
      rw [rCp_out (Or.inr (by omega)), o1 _ _ (by omega)]
    have e4 : ∀ j, 0 ≤ j → j < 3920 → rCp M' 0 (3920 * (i + 1)) 3920 929 j = av M (3920 * (i + 1)) j := fun j a b => by
      rw [rCp_in (by omega) (by omega), o1 _ _ (by omega)]
      unfold av
      congr 1
      omega
    generalize rCp M' 0 (3920 * (i + 1)) 3920 = M2 at *
    obtain ⟨h1, h2, h3, h4, h5, h6, h7⟩ := hI
    have hm := (h7 i (by omega) (by omega)).2.2 (by omega)
    refine ⟨by rw [e1 _ _ (by omega) (by omega)]; exact h1, hm.1.fr (fun k a b => e4 k a b), ?_, ?_, ?_, ?_, ?_⟩
    · refine CInv.cp (M := M) (M' := M2) (b := 1) (d := 295 + 293 * i) hm.2 hm.1 (fun k j r => ?_) (fun k a b => e4 k a b)
      have hq := hmem k j r
      rw [e2 k j (by omega) (by omega)]
      exact A k j r
    · have q1 := fun j => e1 883 j (by omega) (by omega)
      have q2 := fun j => e1 931 j (by omega) (by omega)
      have q3 := fun j => e1 884 j (by omega) (by omega)
      have q4 := fun j => e1 928 j (by omega) (by omega)
      unfold ITape at h4 ⊢
      simp only [q1, q2, q3, q4]
      exact h4
    · have q1 := fun j => e1 882 j (by omega) (by omega)
      have q4 := fun j => e1 928 j (by omega) (by omega)
      have q5 := fun j => e1 891 j (by omega) (by omega)
      unfold IFault at h5 ⊢
      simp only [q1, q4, q5]
      exact h5
    · intro r r0 r1
      have h8 := h6 r r0 r1
      rw [e1 (895 + 2 * r) _ (by omega) (by omega), e1 946 _ (by omega) (by omega), e1 947 _ (by omega) (by omega), e1 (895 + 2 * r) _ (by omega) (by omega)]
      refine h8.imp id (fun h => ⟨h.1, h.2.1, h.2.2.1, h.2.2.2.1, fun x x0 x1 => ?_⟩)
      rw [e1 (896 + 2 * r) _ (by omega) (by omega), e1 948 _ (by omega) (by omega)]
      exact h.2.2.2.2 x x0 x1
    · intro q q0 q1
      rw [e1 881 _ (by omega) (by omega), e1 930 _ (by omega) (by omega)]
      have h8 := h7 q q0 q1
      refine ⟨h8.1, h8.2.1, fun h9 => ?_⟩
      have h10 := h8.2.2 h9
      exact ⟨h10.1.fr (fun k a b => e3 _ (by omega)), h10.2.fr h10.1 (fun k j a b => e1 _ j (by omega) (by omega)) (fun k a b => e3 _ (by omega))⟩

