/-! SMALL METHODS -/
theorem c_within {v lo hi : Int} {M : jM} {Q : Int → jM → Prop} (hv : -2147483648 ≤ v ∧ v ≤ 2147483647) (hlo : -2147483648 ≤ lo ∧ lo ≤ 2147483647) (hhi : -2147483648 ≤ hi ∧ hi ≤ 2147483647) (h1 : lo ≤ v ∧ v ≤ hi → Q 1 M) (h0 : v < lo ∨ hi < v → Q 0 M) : jCt yX11_within cX11_within 3 (some .boolean) 1 [jI v, jI lo, jI hi] M Q := by
  refine jCt_of mt_yX11_within (Nat.le_of_ble_eq_true rfl) (fun X => ?_)
  refine e_iload_n (i := 1) 1 dX11_within_0 rfl rfl rfl ?_
  refine e_iload_n (i := 0) 2 dX11_within_1 rfl rfl rfl ?_
  refine e_icmp_gt 5 14 dX11_within_2 (by omega) (by omega) (by decide) rfl (fun b2 => ?_) (fun b2 => ?_)
  · skip
    refine e_iconst 15 dX11_within_14 rfl ?_
    refine e_zret dX11_within_15 (by decide) ?_
    first | exact h1 ⟨by omega, by omega⟩ | exact h0 (by omega)
  · skip
    refine e_iload_n (i := 0) 6 dX11_within_5 rfl rfl rfl ?_
    refine e_iload_n (i := 2) 7 dX11_within_6 rfl rfl rfl ?_
    refine e_icmp_gt 10 14 dX11_within_7 (by omega) (by omega) (by decide) rfl (fun b7 => ?_) (fun b7 => ?_)
    · skip
      refine e_iconst 15 dX11_within_14 rfl ?_
      refine e_zret dX11_within_15 (by decide) ?_
      first | exact h1 ⟨by omega, by omega⟩ | exact h0 (by omega)
    · skip
      refine e_iconst 11 dX11_within_10 rfl ?_
      refine e_goto 15 dX11_within_11 (by decide) ?_
      refine e_zret dX11_within_15 (by decide) ?_
      first | exact h1 ⟨by omega, by omega⟩ | exact h0 (by omega)

theorem m_within {v lo hi : Int} {M : jM} {Q : Int → jM → Prop} (hv : -9223372036854775808 ≤ v ∧ v ≤ 9223372036854775807) (hlo : -9223372036854775808 ≤ lo ∧ lo ≤ 9223372036854775807) (hhi : -9223372036854775808 ≤ hi ∧ hi ≤ 9223372036854775807) (h1 : lo ≤ v ∧ v ≤ hi → Q 1 M) (h0 : v < lo ∨ hi < v → Q 0 M) : jCt yX12_within cX12_within 6 (some .boolean) 1 [jL v, jL lo, jL hi] M Q := by
  refine jCt_of mt_yX12_within (Nat.le_of_ble_eq_true rfl) (fun X => ?_)
  refine e_lload_n (i := 0) 1 dX12_within_0 rfl rfl rfl ?_
  refine e_lload_n (i := 2) 2 dX12_within_1 rfl rfl rfl ?_
  refine e_lcmp 3 dX12_within_2 (by omega) (by omega) rfl (fun b2 => ?_) (fun b2 => ?_) (fun b2 => ?_)
  · skip
    refine e_if_lt 6 17 dX12_within_3 (by decide) (by decide) rfl (fun _ => ?_) (fun h => absurd h (by decide))
    refine e_iconst 18 dX12_within_17 rfl ?_
    refine e_zret dX12_within_18 (by decide) ?_
    first | exact h1 ⟨by omega, by omega⟩ | exact h0 (by omega)
  · skip
    refine e_if_lt 6 17 dX12_within_3 (by decide) (by decide) rfl (fun h => absurd h (by decide)) (fun _ => ?_)
    refine e_lload_n (i := 0) 7 dX12_within_6 rfl rfl rfl ?_
    refine e_lload 9 dX12_within_7 rfl rfl ?_
    refine e_lcmp 10 dX12_within_9 (by omega) (by omega) rfl (fun b9 => ?_) (fun b9 => ?_) (fun b9 => ?_)
    · skip
      refine e_if_gt 13 17 dX12_within_10 (by decide) (by decide) rfl (fun h => absurd h (by decide)) (fun _ => ?_)
      refine e_iconst 14 dX12_within_13 rfl ?_
      refine e_goto 18 dX12_within_14 (by decide) ?_
      refine e_zret dX12_within_18 (by decide) ?_
      first | exact h1 ⟨by omega, by omega⟩ | exact h0 (by omega)
    · skip
      refine e_if_gt 13 17 dX12_within_10 (by decide) (by decide) rfl (fun h => absurd h (by decide)) (fun _ => ?_)
      refine e_iconst 14 dX12_within_13 rfl ?_
      refine e_goto 18 dX12_within_14 (by decide) ?_
      refine e_zret dX12_within_18 (by decide) ?_
      first | exact h1 ⟨by omega, by omega⟩ | exact h0 (by omega)
    · skip
      refine e_if_gt 13 17 dX12_within_10 (by decide) (by decide) rfl (fun _ => ?_) (fun h => absurd h (by decide))
      refine e_iconst 18 dX12_within_17 rfl ?_
      refine e_zret dX12_within_18 (by decide) ?_
      first | exact h1 ⟨by omega, by omega⟩ | exact h0 (by omega)
  · skip
    refine e_if_lt 6 17 dX12_within_3 (by decide) (by decide) rfl (fun h => absurd h (by decide)) (fun _ => ?_)
    refine e_lload_n (i := 0) 7 dX12_within_6 rfl rfl rfl ?_
    refine e_lload 9 dX12_within_7 rfl rfl ?_
    refine e_lcmp 10 dX12_within_9 (by omega) (by omega) rfl (fun b9 => ?_) (fun b9 => ?_) (fun b9 => ?_)
    · skip
      refine e_if_gt 13 17 dX12_within_10 (by decide) (by decide) rfl (fun h => absurd h (by decide)) (fun _ => ?_)
      refine e_iconst 14 dX12_within_13 rfl ?_
      refine e_goto 18 dX12_within_14 (by decide) ?_
      refine e_zret dX12_within_18 (by decide) ?_
      first | exact h1 ⟨by omega, by omega⟩ | exact h0 (by omega)
    · skip
      refine e_if_gt 13 17 dX12_within_10 (by decide) (by decide) rfl (fun h => absurd h (by decide)) (fun _ => ?_)
      refine e_iconst 14 dX12_within_13 rfl ?_
      refine e_goto 18 dX12_within_14 (by decide) ?_
      refine e_zret dX12_within_18 (by decide) ?_
      first | exact h1 ⟨by omega, by omega⟩ | exact h0 (by omega)
    · skip
      refine e_if_gt 13 17 dX12_within_10 (by decide) (by decide) rfl (fun _ => ?_) (fun h => absurd h (by decide))
      refine e_iconst 18 dX12_within_17 rfl ?_
      refine e_zret dX12_within_18 (by decide) ?_
      first | exact h1 ⟨by omega, by omega⟩ | exact h0 (by omega)

