/-! SMALL METHODS: is there such a one -/
theorem c_hasKind {p : Int} {M : jM} {Q : Int → jM → Prop} (hp : -2147483648 ≤ p ∧ p ≤ 2147483647) (h1 : 0 ≤ p ∧ p < M 1 6 → Q 1 M) (h0 : p < 0 ∨ M 1 6 ≤ p → Q 0 M) : jCt yX8_hasKind cX8_hasKind 2 (some .boolean) 1 [jR 1, jI p] M Q := by
  refine jCt_of mt_yX8_hasKind (Nat.le_of_ble_eq_true rfl) (fun X => ?_)
  refine e_iconst 1 dX8_hasKind_0 rfl ?_
  refine e_iload_n (i := 1) 2 dX8_hasKind_1 rfl rfl rfl ?_
  refine e_icmp_gt 5 17 dX8_hasKind_2 (by decide) (by omega) (by decide) rfl (fun b2 => ?_) (fun b2 => ?_)
  · skip
    refine e_iconst 18 dX8_hasKind_17 rfl ?_
    refine e_zret dX8_hasKind_18 (by decide) ?_
    first | exact h1 ⟨by omega, by omega⟩ | exact h0 (by omega)
  · skip
    refine e_iload_n (i := 1) 6 dX8_hasKind_5 rfl rfl rfl ?_
    refine e_aload_n (i := 0) 7 dX8_hasKind_6 rfl rfl rfl ?_
    refine e_geti (j := 6) 10 fl_8_99 dX8_hasKind_7 at_1 (by decide) rfl rfl (fun r7 => ?_)
    refine e_icmp_ge 13 17 dX8_hasKind_10 (by omega) (by omega) (by decide) rfl (fun b10 => ?_) (fun b10 => ?_)
    · skip
      refine e_iconst 18 dX8_hasKind_17 rfl ?_
      refine e_zret dX8_hasKind_18 (by decide) ?_
      first | exact h1 ⟨by omega, by omega⟩ | exact h0 (by omega)
    · skip
      refine e_iconst 14 dX8_hasKind_13 rfl ?_
      refine e_goto 18 dX8_hasKind_14 (by decide) ?_
      refine e_zret dX8_hasKind_18 (by decide) ?_
      first | exact h1 ⟨by omega, by omega⟩ | exact h0 (by omega)

theorem c_hasPerson {p : Int} {M : jM} {Q : Int → jM → Prop} (hp : -2147483648 ≤ p ∧ p ≤ 2147483647) (h1 : 0 ≤ p ∧ p < M 1 8 → Q 1 M) (h0 : p < 0 ∨ M 1 8 ≤ p → Q 0 M) : jCt yX8_hasPerson cX8_hasPerson 2 (some .boolean) 1 [jR 1, jI p] M Q := by
  refine jCt_of mt_yX8_hasPerson (Nat.le_of_ble_eq_true rfl) (fun X => ?_)
  refine e_iconst 1 dX8_hasPerson_0 rfl ?_
  refine e_iload_n (i := 1) 2 dX8_hasPerson_1 rfl rfl rfl ?_
  refine e_icmp_gt 5 17 dX8_hasPerson_2 (by decide) (by omega) (by decide) rfl (fun b2 => ?_) (fun b2 => ?_)
  · skip
    refine e_iconst 18 dX8_hasPerson_17 rfl ?_
    refine e_zret dX8_hasPerson_18 (by decide) ?_
    first | exact h1 ⟨by omega, by omega⟩ | exact h0 (by omega)
  · skip
    refine e_iload_n (i := 1) 6 dX8_hasPerson_5 rfl rfl rfl ?_
    refine e_aload_n (i := 0) 7 dX8_hasPerson_6 rfl rfl rfl ?_
    refine e_geti (j := 8) 10 fl_8_105 dX8_hasPerson_7 at_1 (by decide) rfl rfl (fun r7 => ?_)
    refine e_icmp_ge 13 17 dX8_hasPerson_10 (by omega) (by omega) (by decide) rfl (fun b10 => ?_) (fun b10 => ?_)
    · skip
      refine e_iconst 18 dX8_hasPerson_17 rfl ?_
      refine e_zret dX8_hasPerson_18 (by decide) ?_
      first | exact h1 ⟨by omega, by omega⟩ | exact h0 (by omega)
    · skip
      refine e_iconst 14 dX8_hasPerson_13 rfl ?_
      refine e_goto 18 dX8_hasPerson_14 (by decide) ?_
      refine e_zret dX8_hasPerson_18 (by decide) ?_
      first | exact h1 ⟨by omega, by omega⟩ | exact h0 (by omega)

theorem c_hasPledge {p : Int} {M : jM} {Q : Int → jM → Prop} (hp : -2147483648 ≤ p ∧ p ≤ 2147483647) (h1 : 0 ≤ p ∧ p < M 1 10 → Q 1 M) (h0 : p < 0 ∨ M 1 10 ≤ p → Q 0 M) : jCt yX8_hasPledge cX8_hasPledge 2 (some .boolean) 1 [jR 1, jI p] M Q := by
  refine jCt_of mt_yX8_hasPledge (Nat.le_of_ble_eq_true rfl) (fun X => ?_)
  refine e_iconst 1 dX8_hasPledge_0 rfl ?_
  refine e_iload_n (i := 1) 2 dX8_hasPledge_1 rfl rfl rfl ?_
  refine e_icmp_gt 5 17 dX8_hasPledge_2 (by decide) (by omega) (by decide) rfl (fun b2 => ?_) (fun b2 => ?_)
  · skip
    refine e_iconst 18 dX8_hasPledge_17 rfl ?_
    refine e_zret dX8_hasPledge_18 (by decide) ?_
    first | exact h1 ⟨by omega, by omega⟩ | exact h0 (by omega)
  · skip
    refine e_iload_n (i := 1) 6 dX8_hasPledge_5 rfl rfl rfl ?_
    refine e_aload_n (i := 0) 7 dX8_hasPledge_6 rfl rfl rfl ?_
    refine e_geti (j := 10) 10 fl_8_111 dX8_hasPledge_7 at_1 (by decide) rfl rfl (fun r7 => ?_)
    refine e_icmp_ge 13 17 dX8_hasPledge_10 (by omega) (by omega) (by decide) rfl (fun b10 => ?_) (fun b10 => ?_)
    · skip
      refine e_iconst 18 dX8_hasPledge_17 rfl ?_
      refine e_zret dX8_hasPledge_18 (by decide) ?_
      first | exact h1 ⟨by omega, by omega⟩ | exact h0 (by omega)
    · skip
      refine e_iconst 14 dX8_hasPledge_13 rfl ?_
      refine e_goto 18 dX8_hasPledge_14 (by decide) ?_
      refine e_zret dX8_hasPledge_18 (by decide) ?_
      first | exact h1 ⟨by omega, by omega⟩ | exact h0 (by omega)

theorem c_hasRack {p : Int} {M : jM} {Q : Int → jM → Prop} (hp : -2147483648 ≤ p ∧ p ≤ 2147483647) (h1 : 0 ≤ p ∧ p < M 1 14 → Q 1 M) (h0 : p < 0 ∨ M 1 14 ≤ p → Q 0 M) : jCt yX8_hasRack cX8_hasRack 2 (some .boolean) 1 [jR 1, jI p] M Q := by
  refine jCt_of mt_yX8_hasRack (Nat.le_of_ble_eq_true rfl) (fun X => ?_)
  refine e_iconst 1 dX8_hasRack_0 rfl ?_
  refine e_iload_n (i := 1) 2 dX8_hasRack_1 rfl rfl rfl ?_
  refine e_icmp_gt 5 17 dX8_hasRack_2 (by decide) (by omega) (by decide) rfl (fun b2 => ?_) (fun b2 => ?_)
  · skip
    refine e_iconst 18 dX8_hasRack_17 rfl ?_
    refine e_zret dX8_hasRack_18 (by decide) ?_
    first | exact h1 ⟨by omega, by omega⟩ | exact h0 (by omega)
  · skip
    refine e_iload_n (i := 1) 6 dX8_hasRack_5 rfl rfl rfl ?_
    refine e_aload_n (i := 0) 7 dX8_hasRack_6 rfl rfl rfl ?_
    refine e_geti (j := 14) 10 fl_8_123 dX8_hasRack_7 at_1 (by decide) rfl rfl (fun r7 => ?_)
    refine e_icmp_ge 13 17 dX8_hasRack_10 (by omega) (by omega) (by decide) rfl (fun b10 => ?_) (fun b10 => ?_)
    · skip
      refine e_iconst 18 dX8_hasRack_17 rfl ?_
      refine e_zret dX8_hasRack_18 (by decide) ?_
      first | exact h1 ⟨by omega, by omega⟩ | exact h0 (by omega)
    · skip
      refine e_iconst 14 dX8_hasRack_13 rfl ?_
      refine e_goto 18 dX8_hasRack_14 (by decide) ?_
      refine e_zret dX8_hasRack_18 (by decide) ?_
      first | exact h1 ⟨by omega, by omega⟩ | exact h0 (by omega)

theorem m_isPerson {p : Int} {M : jM} {Q : Int → jM → Prop} (hp : -2147483648 ≤ p ∧ p ≤ 2147483647) (h1 : 0 ≤ p ∧ p < M 929 643 → Q 1 M) (h0 : p < 0 ∨ M 929 643 ≤ p → Q 0 M) : jCt yX12_isPerson cX12_isPerson 2 (some .boolean) 1 [jR 928, jI p] M Q := by
  refine jCt_of mt_yX12_isPerson (Nat.le_of_ble_eq_true rfl) (fun X => ?_)
  refine e_iload_n (i := 1) 1 dX12_isPerson_0 rfl rfl rfl ?_
  refine e_if_lt 4 20 dX12_isPerson_1 (by omega) (by decide) rfl (fun b1 => ?_) (fun b1 => ?_)
  · skip
    refine e_iconst 21 dX12_isPerson_20 rfl ?_
    refine e_zret dX12_isPerson_21 (by decide) ?_
    first | exact h1 ⟨by omega, by omega⟩ | exact h0 (by omega)
  · skip
    refine e_iload_n (i := 1) 5 dX12_isPerson_4 rfl rfl rfl ?_
    refine e_aload_n (i := 0) 6 dX12_isPerson_5 rfl rfl rfl ?_
    refine e_getr (j := 1) 9 fl_12_13 dX12_isPerson_6 at_928 rfl rfl tp_928_1 rfl ?_
    refine e_sipush 12 dX12_isPerson_9 (by decide) rfl ?_
    refine e_iald 13 dX12_isPerson_12 ar_929 (by decide) (by decide) rfl (fun r12 => ?_)
    refine e_icmp_ge 16 20 dX12_isPerson_13 (by omega) (by omega) (by decide) rfl (fun b13 => ?_) (fun b13 => ?_)
    · skip
      refine e_iconst 21 dX12_isPerson_20 rfl ?_
      refine e_zret dX12_isPerson_21 (by decide) ?_
      first | exact h1 ⟨by omega, by omega⟩ | exact h0 (by omega)
    · skip
      refine e_iconst 17 dX12_isPerson_16 rfl ?_
      refine e_goto 21 dX12_isPerson_17 (by decide) ?_
      refine e_zret dX12_isPerson_21 (by decide) ?_
      first | exact h1 ⟨by omega, by omega⟩ | exact h0 (by omega)

theorem m_isKind {p : Int} {M : jM} {Q : Int → jM → Prop} (hp : -2147483648 ≤ p ∧ p ≤ 2147483647) (h1 : 0 ≤ p ∧ p < M 929 582 → Q 1 M) (h0 : p < 0 ∨ M 929 582 ≤ p → Q 0 M) : jCt yX12_isKind cX12_isKind 2 (some .boolean) 1 [jR 928, jI p] M Q := by
  refine jCt_of mt_yX12_isKind (Nat.le_of_ble_eq_true rfl) (fun X => ?_)
  refine e_iload_n (i := 1) 1 dX12_isKind_0 rfl rfl rfl ?_
  refine e_if_lt 4 20 dX12_isKind_1 (by omega) (by decide) rfl (fun b1 => ?_) (fun b1 => ?_)
  · skip
    refine e_iconst 21 dX12_isKind_20 rfl ?_
    refine e_zret dX12_isKind_21 (by decide) ?_
    first | exact h1 ⟨by omega, by omega⟩ | exact h0 (by omega)
  · skip
    refine e_iload_n (i := 1) 5 dX12_isKind_4 rfl rfl rfl ?_
    refine e_aload_n (i := 0) 6 dX12_isKind_5 rfl rfl rfl ?_
    refine e_getr (j := 1) 9 fl_12_13 dX12_isKind_6 at_928 rfl rfl tp_928_1 rfl ?_
    refine e_sipush 12 dX12_isKind_9 (by decide) rfl ?_
    refine e_iald 13 dX12_isKind_12 ar_929 (by decide) (by decide) rfl (fun r12 => ?_)
    refine e_icmp_ge 16 20 dX12_isKind_13 (by omega) (by omega) (by decide) rfl (fun b13 => ?_) (fun b13 => ?_)
    · skip
      refine e_iconst 21 dX12_isKind_20 rfl ?_
      refine e_zret dX12_isKind_21 (by decide) ?_
      first | exact h1 ⟨by omega, by omega⟩ | exact h0 (by omega)
    · skip
      refine e_iconst 17 dX12_isKind_16 rfl ?_
      refine e_goto 21 dX12_isKind_17 (by decide) ?_
      refine e_zret dX12_isKind_21 (by decide) ?_
      first | exact h1 ⟨by omega, by omega⟩ | exact h0 (by omega)

theorem m_isPledge {p : Int} {M : jM} {Q : Int → jM → Prop} (hp : -2147483648 ≤ p ∧ p ≤ 2147483647) (h1 : 0 ≤ p ∧ p < M 929 709 → Q 1 M) (h0 : p < 0 ∨ M 929 709 ≤ p → Q 0 M) : jCt yX12_isPledge cX12_isPledge 2 (some .boolean) 1 [jR 928, jI p] M Q := by
  refine jCt_of mt_yX12_isPledge (Nat.le_of_ble_eq_true rfl) (fun X => ?_)
  refine e_iload_n (i := 1) 1 dX12_isPledge_0 rfl rfl rfl ?_
  refine e_if_lt 4 20 dX12_isPledge_1 (by omega) (by decide) rfl (fun b1 => ?_) (fun b1 => ?_)
  · skip
    refine e_iconst 21 dX12_isPledge_20 rfl ?_
    refine e_zret dX12_isPledge_21 (by decide) ?_
    first | exact h1 ⟨by omega, by omega⟩ | exact h0 (by omega)
  · skip
    refine e_iload_n (i := 1) 5 dX12_isPledge_4 rfl rfl rfl ?_
    refine e_aload_n (i := 0) 6 dX12_isPledge_5 rfl rfl rfl ?_
    refine e_getr (j := 1) 9 fl_12_13 dX12_isPledge_6 at_928 rfl rfl tp_928_1 rfl ?_
    refine e_sipush 12 dX12_isPledge_9 (by decide) rfl ?_
    refine e_iald 13 dX12_isPledge_12 ar_929 (by decide) (by decide) rfl (fun r12 => ?_)
    refine e_icmp_ge 16 20 dX12_isPledge_13 (by omega) (by omega) (by decide) rfl (fun b13 => ?_) (fun b13 => ?_)
    · skip
      refine e_iconst 21 dX12_isPledge_20 rfl ?_
      refine e_zret dX12_isPledge_21 (by decide) ?_
      first | exact h1 ⟨by omega, by omega⟩ | exact h0 (by omega)
    · skip
      refine e_iconst 17 dX12_isPledge_16 rfl ?_
      refine e_goto 21 dX12_isPledge_17 (by decide) ?_
      refine e_zret dX12_isPledge_21 (by decide) ?_
      first | exact h1 ⟨by omega, by omega⟩ | exact h0 (by omega)

theorem c_isLoan {v : Int} {M : jM} {Q : Int → jM → Prop} (hv : -2147483648 ≤ v ∧ v ≤ 2147483647) (h1 : 1 ≤ v ∧ v ≤ 999 → Q 1 M) (h0 : v < 1 ∨ 999 < v → Q 0 M) : jCt yX11_isLoan cX11_isLoan 1 (some .boolean) 2 [jI v] M Q := by
  refine jCt_of mt_yX11_isLoan (Nat.le_of_ble_eq_true rfl) (fun X => ?_)
  refine e_iload_n (i := 0) 1 dX11_isLoan_0 rfl rfl rfl ?_
  refine e_iconst 2 dX11_isLoan_1 rfl ?_
  refine e_sipush 5 dX11_isLoan_2 (by decide) rfl ?_
  refine e_callS 8 mt_yX11_within ms_yX11_within wd_531 (by decide) dX11_isLoan_5 rfl rfl (Nat.le_of_ble_eq_true rfl) (jroom (by decide)) rfl (c_within (by omega) (by omega) (by omega) (fun w5 => ?_) (fun w5 => ?_))
  · dsimp only [jpush]
    refine e_zret dX11_isLoan_8 (by decide) ?_
    first | exact h1 ⟨by omega, by omega⟩ | exact h0 (by omega)
  · dsimp only [jpush]
    refine e_zret dX11_isLoan_8 (by decide) ?_
    first | exact h1 ⟨by omega, by omega⟩ | exact h0 (by omega)

theorem c_isLifeSpan {v w : Int} {M : jM} {Q : Int → jM → Prop} (hv : -2147483648 ≤ v ∧ v ≤ 2147483647) (hw : -2147483648 ≤ w ∧ w ≤ 2147483647) (h1 : (1 ≤ v ∧ v ≤ 104) ∧ 0 ≤ w ∧ w ≤ 999 → Q 1 M) (h0 : v < 1 ∨ 104 < v ∨ w < 0 ∨ 999 < w → Q 0 M) : jCt yX11_isLifeSpan cX11_isLifeSpan 2 (some .boolean) 2 [jI v, jI w] M Q := by
  refine jCt_of mt_yX11_isLifeSpan (Nat.le_of_ble_eq_true rfl) (fun X => ?_)
  refine e_iload_n (i := 0) 1 dX11_isLifeSpan_0 rfl rfl rfl ?_
  refine e_iconst 2 dX11_isLifeSpan_1 rfl ?_
  refine e_bipush 4 dX11_isLifeSpan_2 (by decide) rfl ?_
  refine e_callS 7 mt_yX11_within ms_yX11_within wd_531 (by decide) dX11_isLifeSpan_4 rfl rfl (Nat.le_of_ble_eq_true rfl) (jroom (by decide)) rfl (c_within (by omega) (by omega) (by omega) (fun w4 => ?_) (fun w4 => ?_))
  · dsimp only [jpush]
    refine e_if_eq 10 25 dX11_isLifeSpan_7 (by decide) (by decide) rfl (fun h => absurd h (by decide)) (fun _ => ?_)
    refine e_iload_n (i := 1) 11 dX11_isLifeSpan_10 rfl rfl rfl ?_
    refine e_iconst 12 dX11_isLifeSpan_11 rfl ?_
    refine e_sipush 15 dX11_isLifeSpan_12 (by decide) rfl ?_
    refine e_callS 18 mt_yX11_within ms_yX11_within wd_531 (by decide) dX11_isLifeSpan_15 rfl rfl (Nat.le_of_ble_eq_true rfl) (jroom (by decide)) rfl (c_within (by omega) (by omega) (by omega) (fun w15 => ?_) (fun w15 => ?_))
    · dsimp only [jpush]
      refine e_if_eq 21 25 dX11_isLifeSpan_18 (by decide) (by decide) rfl (fun h => absurd h (by decide)) (fun _ => ?_)
      refine e_iconst 22 dX11_isLifeSpan_21 rfl ?_
      refine e_goto 26 dX11_isLifeSpan_22 (by decide) ?_
      refine e_zret dX11_isLifeSpan_26 (by decide) ?_
      first | exact h1 ⟨⟨by omega, by omega⟩, by omega, by omega⟩ | exact h0 (by omega)
    · dsimp only [jpush]
      refine e_if_eq 21 25 dX11_isLifeSpan_18 (by decide) (by decide) rfl (fun _ => ?_) (fun h => absurd h (by decide))
      refine e_iconst 26 dX11_isLifeSpan_25 rfl ?_
      refine e_zret dX11_isLifeSpan_26 (by decide) ?_
      first | exact h1 ⟨⟨by omega, by omega⟩, by omega, by omega⟩ | exact h0 (by omega)
  · dsimp only [jpush]
    refine e_if_eq 10 25 dX11_isLifeSpan_7 (by decide) (by decide) rfl (fun _ => ?_) (fun h => absurd h (by decide))
    refine e_iconst 26 dX11_isLifeSpan_25 rfl ?_
    refine e_zret dX11_isLifeSpan_26 (by decide) ?_
    first | exact h1 ⟨⟨by omega, by omega⟩, by omega, by omega⟩ | exact h0 (by omega)

/-- the cell c is a law with its rows behind it -/
def jLw (c : Int) : Prop := jAt 949 c 1 ∧ (topo c 1 = some (c + 1) ∧ jAr 949 (c + 1) 13 8) ∧ (topo c 2 = some (c + 2) ∧ jAr 949 (c + 2) 13 8) ∧ (topo c 3 = some (c + 3) ∧ jAr 949 (c + 3) 13 8) ∧ topo c 4 = some (c + 4) ∧ jAr 949 (c + 4) 13 6
theorem jLw.at {c : Int} (h : jLw c) : jAt 949 c 1 := h.1
theorem jLw.t1 {c : Int} (h : jLw c) : topo c 1 = some (c + 1) := h.2.1.1
theorem jLw.a1 {c : Int} (h : jLw c) : jAr 949 (c + 1) 13 8 := h.2.1.2
theorem jLw.t2 {c : Int} (h : jLw c) : topo c 2 = some (c + 2) := h.2.2.1.1
theorem jLw.a2 {c : Int} (h : jLw c) : jAr 949 (c + 2) 13 8 := h.2.2.1.2
theorem jLw.t3 {c : Int} (h : jLw c) : topo c 3 = some (c + 3) := h.2.2.2.1.1
theorem jLw.a3 {c : Int} (h : jLw c) : jAr 949 (c + 3) 13 8 := h.2.2.2.1.2
theorem jLw.t4 {c : Int} (h : jLw c) : topo c 4 = some (c + 4) := h.2.2.2.2.1
theorem jLw.a4 {c : Int} (h : jLw c) : jAr 949 (c + 4) 13 6 := h.2.2.2.2.2
theorem lw_2 : jLw 2 := ⟨at_2, ⟨tp_2_1, ar_3⟩, ⟨tp_2_2, ar_4⟩, ⟨tp_2_3, ar_5⟩, tp_2_4, ar_6⟩
theorem lw_7 : jLw 7 := ⟨at_7, ⟨tp_7_1, ar_8⟩, ⟨tp_7_2, ar_9⟩, ⟨tp_7_3, ar_10⟩, tp_7_4, ar_11⟩
theorem lw_885 : jLw 885 := ⟨at_885, ⟨tp_885_1, ar_886⟩, ⟨tp_885_2, ar_887⟩, ⟨tp_885_3, ar_888⟩, tp_885_4, ar_889⟩
/-- what a law's cells keep (they are as the reference's) -/
def lU (M : jM) (c : Int) : Int := M c 0
def lOk (M : jM) (c : Int) : Prop := (0 ≤ M c 0 ∧ M c 0 ≤ 8) ∧ (∀ i, 0 ≤ i → i < M c 0 → (1 ≤ M (c + 1) i ∧ M (c + 1) i ≤ 999) ∧ (0 ≤ M (c + 2) i ∧ M (c + 2) i ≤ 99) ∧ (1 ≤ M (c + 3) i ∧ M (c + 3) i ≤ 999)) ∧ (∀ i j, 0 ≤ i → i < j → j < M c 0 → M (c + 1) i < M (c + 1) j) ∧ (0 ≤ M (c + 4) 0 ∧ M (c + 4) 0 ≤ 99)
/-- the greatest loan -/
def lTop (M : jM) (c : Int) : Int := if 0 < M c 0 then M (c + 1) (M c 0 - 1) else 0
/-- what a half takes of a loan: the first upto from i on that is the loan or more -/
def lTake (up tk pr : Int → Int) (loan : Int) : Nat → Int → Int
  | 0, _ => 0
  | f + 1, i => if loan ≤ up i then tk i * ((loan + pr i - 1) / pr i) else lTake up tk pr loan f (i + 1)
def lHalf (M : jM) (c loan : Int) : Int := lTake (M (c + 1)) (M (c + 2)) (M (c + 3)) loan (M c 0).toNat 0
theorem c_greatest {c : Int} {M : jM} {Q : Int → jM → Prop} (hL : jLw c) (hO : lOk M c) (h : Q (lTop M c) M) : jCt yX1_greatest cX1_greatest 1 (some .int) 1 [jR c] M Q := by
  refine jCt_of mt_yX1_greatest (Nat.le_of_ble_eq_true rfl) (fun X => ?_)
  have hO1 := hO.1
  refine e_aload_n (i := 0) 1 dX1_greatest_0 rfl rfl rfl ?_
  refine e_geti (j := 0) 4 fl_1_27 dX1_greatest_1 hL.at (by decide) rfl rfl (fun r1 => ?_)
  refine e_if_le 7 21 dX1_greatest_4 (by omega) (by decide) rfl (fun b4 => ?_) (fun b4 => ?_)
  · skip
    refine e_iconst 22 dX1_greatest_21 rfl ?_
    refine e_iret dX1_greatest_22 ?_
    first
      | (rw [show lTop M c = M (c + 1) (M c 0 - 1) from if_pos (by omega)] at h; exact h)
      | (rw [show lTop M c = 0 from if_neg (by omega)] at h; exact h)
  · skip
    refine e_aload_n (i := 0) 8 dX1_greatest_7 rfl rfl rfl ?_
    refine e_getr (j := 1) 11 fl_1_9 dX1_greatest_8 hL.at rfl rfl hL.t1 rfl ?_
    refine e_aload_n (i := 0) 12 dX1_greatest_11 rfl rfl rfl ?_
    refine e_geti (j := 0) 15 fl_1_27 dX1_greatest_12 hL.at (by decide) rfl rfl (fun r12 => ?_)
    refine e_iconst 16 dX1_greatest_15 rfl ?_
    refine e_isub 17 dX1_greatest_16 rfl ?_
    refine e_iald 18 dX1_greatest_17 hL.a1 (by omega) (by omega) rfl (fun r17 => ?_)
    refine e_goto 22 dX1_greatest_18 (by decide) ?_
    refine e_iret dX1_greatest_22 ?_
    first
      | (rw [show lTop M c = M (c + 1) (M c 0 - 1) from if_pos (by omega)] at h; exact h)
      | (rw [show lTop M c = 0 from if_neg (by omega)] at h; exact h)

theorem lTop_rng {M : jM} {c : Int} (hO : lOk M c) : 0 ≤ lTop M c ∧ lTop M c ≤ 999 := by
  unfold lTop
  have h1 := hO.1
  split
  · have := (hO.2.1 (M c 0 - 1) (by omega) (by omega)).1
    omega
  · omega
theorem lTop_le {M : jM} {c i : Int} (hO : lOk M c) (h0 : 0 ≤ i) (h1 : i < M c 0) : M (c + 1) i ≤ lTop M c := by
  unfold lTop
  rw [if_pos (by omega)]
  by_cases e : i = M c 0 - 1
  · rw [e]; omega
  · have := hO.2.2.1 i (M c 0 - 1) h0 (by omega) (by omega)
    omega
theorem c_lends {c loan : Int} {M : jM} {Q : Int → jM → Prop} (hl : -2147483648 ≤ loan ∧ loan ≤ 2147483647) (hL : jLw c) (hO : lOk M c) (h1 : loan ≤ lTop M c → Q 1 M) (h0 : lTop M c < loan → Q 0 M) : jCt yX1_lends cX1_lends 2 (some .boolean) 2 [jR c, jI loan] M Q := by
  refine jCt_of mt_yX1_lends (Nat.le_of_ble_eq_true rfl) (fun X => ?_)
  have hT := lTop_rng hO
  refine e_iload_n (i := 1) 1 dX1_lends_0 rfl rfl rfl ?_
  refine e_aload_n (i := 0) 2 dX1_lends_1 rfl rfl rfl ?_
  refine e_callV 5 mt_yX1_greatest mv_yX1_greatest wd_734 (by decide) dX1_lends_2 hL.at jc_1 rfl rfl rfl (Nat.le_of_ble_eq_true rfl) (jroom (by decide)) rfl (c_greatest hL hO ?_)
  dsimp only [jpush]
  refine e_icmp_gt 8 12 dX1_lends_5 (by omega) (by omega) (by decide) rfl (fun b5 => ?_) (fun b5 => ?_)
  · skip
    refine e_iconst 13 dX1_lends_12 rfl ?_
    refine e_zret dX1_lends_13 (by decide) ?_
    first | exact h1 (by omega) | exact h0 (by omega)
  · skip
    refine e_iconst 9 dX1_lends_8 rfl ?_
    refine e_goto 13 dX1_lends_9 (by decide) ?_
    refine e_zret dX1_lends_13 (by decide) ?_
    first | exact h1 (by omega) | exact h0 (by omega)

theorem c_halves {a b : Int} {M : jM} {Q : Int → jM → Prop} (ha : 0 ≤ a ∧ a ≤ b ∧ b ≤ 1000000) (h : Q (1 + (b - a) / 2) M) : jCt yX1_halves cX1_halves 2 (some .int) 1 [jI a, jI b] M Q := by
  refine jCt_of mt_yX1_halves (Nat.le_of_ble_eq_true rfl) (fun X => ?_)
  refine e_iconst 1 dX1_halves_0 rfl ?_
  refine e_iload_n (i := 1) 2 dX1_halves_1 rfl rfl rfl ?_
  refine e_iload_n (i := 0) 3 dX1_halves_2 rfl rfl rfl ?_
  refine e_isub 4 dX1_halves_3 rfl ?_
  refine e_iconst 5 dX1_halves_4 rfl ?_
  refine e_idiv 6 dX1_halves_5 (by omega) (by decide) (by decide) rfl ?_
  refine e_iadd 7 dX1_halves_6 rfl ?_
  refine e_iret dX1_halves_7 ?_
  rw [Int.tdiv_eq_ediv_of_nonneg (by omega)]
  exact h

theorem l_take {X : jX} {c loan : Int} {M : jM} {Q : Int → jM → Prop} (hl : 1 ≤ loan ∧ loan ≤ 999) (hL : jLw c) (hO : lOk M c) : ∀ (n : Nat) (i : Int), 0 ≤ i → i ≤ M c 0 → n = (M c 0 - i).toNat → Q (lTake (M (c + 1)) (M (c + 2)) (M (c + 3)) loan n i) M → jE X yX1_takenByHalf cX1_takenByHalf 3 (some .int) 1 Q M 2 [(0, jR c), (1, jI loan), (2, jI i)] [] := by
  intro n
  induction n using Nat.strongRecOn with
  | _ n ih =>
  intro i h0 h01 hn h
  have hO1 := hO.1
  refine e_iload_n (i := 2) 3 dX1_takenByHalf_2 rfl rfl rfl ?_
  refine e_aload_n (i := 0) 4 dX1_takenByHalf_3 rfl rfl rfl ?_
  refine e_geti (j := 0) 7 fl_1_27 dX1_takenByHalf_4 hL.at (by decide) rfl rfl (fun r4 => ?_)
  refine e_icmp_ge 10 65 dX1_takenByHalf_7 (by omega) (by omega) (by decide) rfl (fun b7 => ?_) (fun b7 => ?_)
  · skip
    refine e_iconst 66 dX1_takenByHalf_65 rfl ?_
    refine e_iret dX1_takenByHalf_66 ?_
    have e : n = 0 := by omega
    subst e
    exact h
  · skip
    have hOi := hO.2.1 i h0 (by omega)
    obtain ⟨k, rfl⟩ : ∃ k, n = k + 1 := ⟨n - 1, by omega⟩
    rw [lTake] at h
    refine e_aload_n (i := 0) 11 dX1_takenByHalf_10 rfl rfl rfl ?_
    refine e_getr (j := 1) 14 fl_1_9 dX1_takenByHalf_11 hL.at rfl rfl hL.t1 rfl ?_
    refine e_iload_n (i := 2) 15 dX1_takenByHalf_14 rfl rfl rfl ?_
    refine e_iald 16 dX1_takenByHalf_15 hL.a1 (by omega) (by omega) rfl (fun r15 => ?_)
    refine e_iload_n (i := 1) 17 dX1_takenByHalf_16 rfl rfl rfl ?_
    refine e_icmp_lt 20 59 dX1_takenByHalf_17 (by omega) (by omega) (by decide) rfl (fun b17 => ?_) (fun b17 => ?_)
    · skip
      refine e_iinc (lsn := [(2, _), (0, _), (1, _)]) 62 dX1_takenByHalf_59 rfl (by decide) rfl rfl ?_
      refine e_goto 2 dX1_takenByHalf_62 (by decide) ?_
      refine e_ls (ls2 := [(0, _), (1, _), (2, _)]) rfl ?_
      rw [if_neg (by omega)] at h
      exact ih k (by omega) (i + 1) (by omega) (by omega) (by omega) h
    · skip
      refine e_aload_n (i := 0) 21 dX1_takenByHalf_20 rfl rfl rfl ?_
      refine e_getr (j := 3) 24 fl_1_18 dX1_takenByHalf_21 hL.at rfl rfl hL.t3 rfl ?_
      refine e_iload_n (i := 2) 25 dX1_takenByHalf_24 rfl rfl rfl ?_
      refine e_iald 26 dX1_takenByHalf_25 hL.a3 (by omega) (by omega) rfl (fun r25 => ?_)
      refine e_iconst 27 dX1_takenByHalf_26 rfl ?_
      refine e_icmp_ge 30 34 dX1_takenByHalf_27 (by omega) (by decide) (by decide) rfl (fun b27 => ?_) (fun b27 => ?_)
      · skip
        refine e_aload_n (i := 0) 35 dX1_takenByHalf_34 rfl rfl rfl ?_
        refine e_getr (j := 2) 38 fl_1_15 dX1_takenByHalf_35 hL.at rfl rfl hL.t2 rfl ?_
        refine e_iload_n (i := 2) 39 dX1_takenByHalf_38 rfl rfl rfl ?_
        refine e_iald 40 dX1_takenByHalf_39 hL.a2 (by omega) (by omega) rfl (fun r39 => ?_)
        refine e_iload_n (i := 1) 41 dX1_takenByHalf_40 rfl rfl rfl ?_
        refine e_aload_n (i := 0) 42 dX1_takenByHalf_41 rfl rfl rfl ?_
        refine e_getr (j := 3) 45 fl_1_18 dX1_takenByHalf_42 hL.at rfl rfl hL.t3 rfl ?_
        refine e_iload_n (i := 2) 46 dX1_takenByHalf_45 rfl rfl rfl ?_
        refine e_iald 47 dX1_takenByHalf_46 hL.a3 (by omega) (by omega) rfl (fun r46 => ?_)
        refine e_iadd 48 dX1_takenByHalf_47 rfl ?_
        refine e_iconst 49 dX1_takenByHalf_48 rfl ?_
        refine e_isub 50 dX1_takenByHalf_49 rfl ?_
        refine e_aload_n (i := 0) 51 dX1_takenByHalf_50 rfl rfl rfl ?_
        refine e_getr (j := 3) 54 fl_1_18 dX1_takenByHalf_51 hL.at rfl rfl hL.t3 rfl ?_
        refine e_iload_n (i := 2) 55 dX1_takenByHalf_54 rfl rfl rfl ?_
        refine e_iald 56 dX1_takenByHalf_55 hL.a3 (by omega) (by omega) rfl (fun r55 => ?_)
        refine e_idiv 57 dX1_takenByHalf_56 (by omega) (by omega) (by omega) rfl ?_
        refine e_imul 58 dX1_takenByHalf_57 rfl ?_
        refine e_iret dX1_takenByHalf_58 ?_
        rw [if_pos (by omega)] at h
        rw [Int.tdiv_eq_ediv_of_nonneg (by omega)]
        exact h
      · skip
        refine e_iconst 31 dX1_takenByHalf_30 rfl ?_
        refine e_goto 58 dX1_takenByHalf_31 (by decide) ?_
        refine e_iret dX1_takenByHalf_58 ?_
        omega

theorem c_half {c loan : Int} {M : jM} {Q : Int → jM → Prop} (hl : 1 ≤ loan ∧ loan ≤ 999) (hL : jLw c) (hO : lOk M c) (h : Q (lHalf M c loan) M) : jCt yX1_takenByHalf cX1_takenByHalf 3 (some .int) 1 [jR c, jI loan] M Q := by
  refine jCt_of mt_yX1_takenByHalf (Nat.le_of_ble_eq_true rfl) (fun X => ?_)
  refine e_iconst 1 dX1_takenByHalf_0 rfl ?_
  refine e_istore_n (i := 2) (lsn := [(2, _), (0, _), (1, _)]) 2 dX1_takenByHalf_1 rfl (by decide) rfl rfl ?_
  refine e_ls (ls2 := [(0, _), (1, _), (2, _)]) rfl ?_
  exact l_take hl hL hO _ 0 (by omega) hO.1.1 (by rw [Int.sub_zero]) h

theorem lTake_rng {up tk pr : Int → Int} {loan : Int} (hl : 1 ≤ loan ∧ loan ≤ 999) : ∀ (n : Nat) (i : Int), (∀ j, i ≤ j → j < i + n → 0 ≤ tk j ∧ tk j ≤ 99 ∧ 1 ≤ pr j ∧ pr j ≤ 999) → 0 ≤ lTake up tk pr loan n i ∧ lTake up tk pr loan n i ≤ 99 * 999
  | 0, _, _ => ⟨Int.le_refl 0, by show (0 : Int) ≤ _; decide⟩
  | n + 1, i, h => by
    rw [lTake]
    split
    · have h1 := h i (by omega) (by omega)
      have h2 : 0 ≤ (loan + pr i - 1) / pr i := Int.ediv_nonneg (by omega) (by omega)
      have h3 : (loan + pr i - 1) / pr i ≤ loan := by
        apply Int.ediv_le_of_le_mul (by omega)
        have h4 : 0 ≤ (loan - 1) * (pr i - 1) := Int.mul_nonneg (by omega) (by omega)
        rw [Int.sub_mul, Int.mul_sub] at h4
        omega
      refine ⟨Int.mul_nonneg (by omega) h2, ?_⟩
      exact Int.mul_le_mul (by omega) (by omega) h2 (by omega)
    · exact lTake_rng hl n (i + 1) (fun j hj hj2 => h j (by omega) (by omega))
theorem lHalf_rng {M : jM} {c loan : Int} (hO : lOk M c) (hl : 1 ≤ loan ∧ loan ≤ 999) : 0 ≤ lHalf M c loan ∧ lHalf M c loan ≤ 98901 :=
  lTake_rng hl _ 0 (fun j h0 h1 => by
    have h2 := hO.1
    have h3 := hO.2.1 j h0 (by omega)
    omega)
/-- interest, least at least -/
def lChg (M : jM) (c loan hv : Int) : Int := max (M (c + 4) 0) (hv * lHalf M c loan)
theorem lChg_rng {M : jM} {c loan hv : Int} (hO : lOk M c) (hl : 1 ≤ loan ∧ loan ≤ 999) (hh : 0 ≤ hv ∧ hv ≤ 400) : 0 ≤ lChg M c loan hv ∧ lChg M c loan hv ≤ 400 * 98901 := by
  unfold lChg
  have h1 := lHalf_rng hO hl
  have h2 := hO.2.2.2
  have h3 : 0 ≤ hv * lHalf M c loan := Int.mul_nonneg (by omega) h1.1
  have h4 : hv * lHalf M c loan ≤ 400 * 98901 := Int.mul_le_mul (by omega) h1.2 h1.1 (by omega)
  omega
theorem c_charge {c loan hv : Int} {M : jM} {Q : Int → jM → Prop} (hl : 1 ≤ loan ∧ loan ≤ 999) (hh : 0 ≤ hv ∧ hv ≤ 400) (hL : jLw c) (hO : lOk M c) (h : Q (lChg M c loan hv) M) : jCt yX1_charge cX1_charge 3 (some .int) 2 [jR c, jI loan, jI hv] M Q := by
  refine jCt_of mt_yX1_charge (Nat.le_of_ble_eq_true rfl) (fun X => ?_)
  have h1 := lHalf_rng hO hl
  have h2 := hO.2.2.2
  have h3 : 0 ≤ hv * lHalf M c loan := Int.mul_nonneg (by omega) h1.1
  have h4 : hv * lHalf M c loan ≤ 400 * 98901 := Int.mul_le_mul (by omega) h1.2 h1.1 (by omega)
  refine e_aload_n (i := 0) 1 dX1_charge_0 rfl rfl rfl ?_
  refine e_getr (j := 4) 4 fl_1_21 dX1_charge_1 hL.at rfl rfl hL.t4 rfl ?_
  refine e_iconst 5 dX1_charge_4 rfl ?_
  refine e_iald 6 dX1_charge_5 hL.a4 (by decide) (by decide) rfl (fun r5 => ?_)
  refine e_iload_n (i := 2) 7 dX1_charge_6 rfl rfl rfl ?_
  refine e_aload_n (i := 0) 8 dX1_charge_7 rfl rfl rfl ?_
  refine e_iload_n (i := 1) 9 dX1_charge_8 rfl rfl rfl ?_
  refine e_callV 12 mt_yX1_takenByHalf mv_yX1_takenByHalf wd_742 (by decide) dX1_charge_9 hL.at jc_1 rfl rfl rfl (Nat.le_of_ble_eq_true rfl) (jroom (by decide)) rfl (c_half (by omega) hL hO ?_)
  dsimp only [jpush]
  refine e_imul 13 dX1_charge_12 rfl ?_
  refine e_maxI 16 wd_746 dX1_charge_13 (by omega) (by omega) (Nat.le_of_ble_eq_true rfl) (jroom (by decide)) rfl ?_
  refine e_iret dX1_charge_16 ?_
  exact h

