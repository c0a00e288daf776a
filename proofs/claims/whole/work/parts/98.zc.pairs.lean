/-! TEXTS *** the class: the law -/
theorem olo_r (k : Int) : 0 ≤ oLo k ∧ oLo k ≤ 1 := by
  unfold oLo
  split <;> omega
theorem ohi_r (k : Int) : 20 ≤ oHi k ∧ oHi k ≤ 104 := by
  unfold oHi
  split
  · omega
  · split
    · omega
    · split <;> omega
theorem o_tab {k r : Int} (hk : 3 ≤ k ∧ k ≤ 8) (hr : r = k - 3) : (jzt 1).getD r.toNat 0 = oLo k ∧ (jzt 2).getD r.toNat 0 = oHi k := by
  have hc : k = 3 ∨ k = 4 ∨ k = 5 ∨ k = 6 ∨ k = 7 ∨ k = 8 := by omega
  subst hr
  rcases hc with h | h | h | h | h | h <;> subst h <;> decide
def pRule (t : Int → Int) (n : Int) (s : PS) : PS := if 3 ≤ s.2.2.1 ∧ s.2.2.1 ≤ 8 then pOnce t n s else pFail 2 s
section
variable {M Y Z W : jM} {n : Int} {s : PS}
theorem lw_once (hM : CM M n) (hI : PI n s) (hw : s.2.2.2.2.1 = 0) (hk : 3 ≤ s.2.2.1 ∧ s.2.2.1 ≤ 8) (hL : CLw Z s) {r : Int} (hr : r = (pO2 (M 931) n s).2.2.2.1) (hD : LD W (Z 885) (Z 886) (Z 887) (Z 888) (upd1 (Z 889) (s.2.2.1 - 3) r) (jor (Z 882 3) (jshl 1 (s.2.2.1 - 3)))) : CLw W (pO4 (M 931) n s) := by
  obtain ⟨Y, hT, e⟩ := hM.rt
  have f := fun i (h : i ≠ 25 + (s.2.2.1 - 3)) => o4_a (M := Y) (i := i) hT hI hw h
  have v := o4_v (M := M) (n := n) (s := s)
  have k := (pk_o3 (M := Y) hT hI hw).1
  rw [e] at f k
  have et : (pO4 (M 931) n s).2.2.2.2.2.2.2.2.1 = jor s.2.2.2.2.2.2.2.2.1 (jshl 1 (s.2.2.1 - 3)) := congrArg (fun z => z.2.2.1) k.2.2.2
  have n0 := hI.2.2.2.2.2.2.1
  obtain ⟨l0, l5, l3, l9, lt⟩ := hL
  obtain ⟨d5, d6, d7, d8, d9, dt⟩ := hD
  refine ⟨?_, ?_, fun i a b => ?_, fun i a b => ?_, ?_⟩
  · rw [d5, f 0 (by omega), l0]
  · rw [d5, f 31 (by omega), l5]
  · rw [f 0 (by omega)] at b
    rw [d6, d7, d8, f _ (by omega), f _ (by omega), f _ (by omega)]
    exact l3 i a b
  · rw [d9]
    by_cases c : i = s.2.2.1 - 3
    · rw [c, u1, v, hr]
    · rw [u2 c, f _ (by omega)]
      exact l9 i a b
  · rw [dt, et, lt]
theorem lw_line (hL : CLw Y (pL1 (M 931) n s)) (hk : PK n (pL1 (M 931) n s) (pL2 (M 931) n s)) (h0 : (pL1 (M 931) n s).2.2.2.2.2.2.2.2.2 0 ≤ 8) (hD : LD W (upd1 (Y 885) 5 (Y 885 5 + 1)) (Y 886) (Y 887) (Y 888) (Y 889) (Y 882 3)) : CLw W (pLine (M 931) n s) := by
  have ea := hk.pa
  have et : (pL2 (M 931) n s).2.2.2.2.2.2.2.2.1 = (pL1 (M 931) n s).2.2.2.2.2.2.2.2.1 := congrArg (fun z => z.2.2.1) hk.2.2.2
  have f : ∀ i, i ≠ 31 → (pLine (M 931) n s).2.2.2.2.2.2.2.2.2 i = (pL1 (M 931) n s).2.2.2.2.2.2.2.2.2 i := fun i hi => by rw [line_a hi, ea]
  have f31 : (pLine (M 931) n s).2.2.2.2.2.2.2.2.2 31 = (pL1 (M 931) n s).2.2.2.2.2.2.2.2.2 31 + 1 := by rw [line_31, ea]
  obtain ⟨l0, l5, l3, l9, lt⟩ := hL
  obtain ⟨d5, d6, d7, d8, d9, dt⟩ := hD
  refine ⟨?_, ?_, fun i a b => ?_, fun i a b => ?_, ?_⟩
  · rw [d5, u2 (by omega), f 0 (by omega), l0]
  · rw [d5, u1, f31, l5]
  · rw [f 0 (by omega)] at b
    rw [d6, d7, d8, f _ (by omega), f _ (by omega), f _ (by omega)]
    exact l3 i a b
  · rw [d9, f _ (by omega)]
    exact l9 i a b
  · rw [dt, lt]
    exact et.symm
end
theorem c_rule {M Z : jM} {n : Int} {Q : Int → jM → Prop} (hM : CM M n) {s : PS} (hZ : CTk M Z n s) (hI : PI n s) (h : ∀ r : Int, (3 ≤ s.2.2.1 ∧ s.2.2.1 ≤ 8 ∧ r = s.2.2.1 - 3) ∨ (r = -1 ∧ ¬ (3 ≤ s.2.2.1 ∧ s.2.2.1 ≤ 8)) → Q r Z) : jCt yX6_ruleHere cX6_ruleHere 1 (some .int) 6 [jR 882] Z Q := by
  refine jCt_of mt_yX6_ruleHere (Nat.le_of_ble_eq_true rfl) (fun X => ?_)
  have e3 := hZ.2.2.2.1.1
  have e5 := hZ.2.2.2.1.2.1
  have eT := hZ.2.2.2.1.2.2
  have hi1 := hI.1
  have hi2 := hI.2.1
  have hn0 := hM.1
  refine e_aload_n (i := 0) 1 dX6_ruleHere_0 rfl rfl rfl ?_
  refine e_getr (j := 0) 4 fl_6_12 dX6_ruleHere_1 at_882 rfl rfl tp_882_0 rfl ?_
  refine e_ldcS 6 (i := 3) (by decide) rfl rfl dX6_ruleHere_4 rfl ?_
  refine e_callV 9 mt_yX9_spells mv_yX9_spells wd_555 (by decide) dX6_ruleHere_6 at_883 jc_9 rfl rfl rfl (Nat.le_of_ble_eq_true rfl) (jroom (by decide)) rfl (c_spells_3 hM hZ hI (fun w6 => ?_) (fun w6 => ?_))
  · dsimp only [jpush]
    refine e_if_eq 12 14 dX6_ruleHere_9 (by decide) (by decide) rfl (fun h => absurd h (by decide)) (fun _ => ?_)
    refine e_iconst 13 dX6_ruleHere_12 rfl ?_
    refine e_iret dX6_ruleHere_13 ?_
    exact h _ (by omega)
  · dsimp only [jpush]
    refine e_if_eq 12 14 dX6_ruleHere_9 (by decide) (by decide) rfl (fun _ => ?_) (fun h => absurd h (by decide))
    refine e_aload_n (i := 0) 15 dX6_ruleHere_14 rfl rfl rfl ?_
    refine e_getr (j := 0) 18 fl_6_12 dX6_ruleHere_15 at_882 rfl rfl tp_882_0 rfl ?_
    refine e_ldcS 20 (i := 4) (by decide) rfl rfl dX6_ruleHere_18 rfl ?_
    refine e_callV 23 mt_yX9_spells mv_yX9_spells wd_555 (by decide) dX6_ruleHere_20 at_883 jc_9 rfl rfl rfl (Nat.le_of_ble_eq_true rfl) (jroom (by decide)) rfl (c_spells_4 hM hZ hI (fun w20 => ?_) (fun w20 => ?_))
    · dsimp only [jpush]
      refine e_if_eq 26 28 dX6_ruleHere_23 (by decide) (by decide) rfl (fun h => absurd h (by decide)) (fun _ => ?_)
      refine e_iconst 27 dX6_ruleHere_26 rfl ?_
      refine e_iret dX6_ruleHere_27 ?_
      exact h _ (by omega)
    · dsimp only [jpush]
      refine e_if_eq 26 28 dX6_ruleHere_23 (by decide) (by decide) rfl (fun _ => ?_) (fun h => absurd h (by decide))
      refine e_aload_n (i := 0) 29 dX6_ruleHere_28 rfl rfl rfl ?_
      refine e_getr (j := 0) 32 fl_6_12 dX6_ruleHere_29 at_882 rfl rfl tp_882_0 rfl ?_
      refine e_ldcS 34 (i := 5) (by decide) rfl rfl dX6_ruleHere_32 rfl ?_
      refine e_callV 37 mt_yX9_spells mv_yX9_spells wd_555 (by decide) dX6_ruleHere_34 at_883 jc_9 rfl rfl rfl (Nat.le_of_ble_eq_true rfl) (jroom (by decide)) rfl (c_spells_5 hM hZ hI (fun w34 => ?_) (fun w34 => ?_))
      · dsimp only [jpush]
        refine e_if_eq 40 42 dX6_ruleHere_37 (by decide) (by decide) rfl (fun h => absurd h (by decide)) (fun _ => ?_)
        refine e_iconst 41 dX6_ruleHere_40 rfl ?_
        refine e_iret dX6_ruleHere_41 ?_
        exact h _ (by omega)
      · dsimp only [jpush]
        refine e_if_eq 40 42 dX6_ruleHere_37 (by decide) (by decide) rfl (fun _ => ?_) (fun h => absurd h (by decide))
        refine e_aload_n (i := 0) 43 dX6_ruleHere_42 rfl rfl rfl ?_
        refine e_getr (j := 0) 46 fl_6_12 dX6_ruleHere_43 at_882 rfl rfl tp_882_0 rfl ?_
        refine e_ldcS 48 (i := 6) (by decide) rfl rfl dX6_ruleHere_46 rfl ?_
        refine e_callV 51 mt_yX9_spells mv_yX9_spells wd_555 (by decide) dX6_ruleHere_48 at_883 jc_9 rfl rfl rfl (Nat.le_of_ble_eq_true rfl) (jroom (by decide)) rfl (c_spells_6 hM hZ hI (fun w48 => ?_) (fun w48 => ?_))
        · dsimp only [jpush]
          refine e_if_eq 54 56 dX6_ruleHere_51 (by decide) (by decide) rfl (fun h => absurd h (by decide)) (fun _ => ?_)
          refine e_iconst 55 dX6_ruleHere_54 rfl ?_
          refine e_iret dX6_ruleHere_55 ?_
          exact h _ (by omega)
        · dsimp only [jpush]
          refine e_if_eq 54 56 dX6_ruleHere_51 (by decide) (by decide) rfl (fun _ => ?_) (fun h => absurd h (by decide))
          refine e_aload_n (i := 0) 57 dX6_ruleHere_56 rfl rfl rfl ?_
          refine e_getr (j := 0) 60 fl_6_12 dX6_ruleHere_57 at_882 rfl rfl tp_882_0 rfl ?_
          refine e_ldcS 62 (i := 7) (by decide) rfl rfl dX6_ruleHere_60 rfl ?_
          refine e_callV 65 mt_yX9_spells mv_yX9_spells wd_555 (by decide) dX6_ruleHere_62 at_883 jc_9 rfl rfl rfl (Nat.le_of_ble_eq_true rfl) (jroom (by decide)) rfl (c_spells_7 hM hZ hI (fun w62 => ?_) (fun w62 => ?_))
          · dsimp only [jpush]
            refine e_if_eq 68 70 dX6_ruleHere_65 (by decide) (by decide) rfl (fun h => absurd h (by decide)) (fun _ => ?_)
            refine e_iconst 69 dX6_ruleHere_68 rfl ?_
            refine e_iret dX6_ruleHere_69 ?_
            exact h _ (by omega)
          · dsimp only [jpush]
            refine e_if_eq 68 70 dX6_ruleHere_65 (by decide) (by decide) rfl (fun _ => ?_) (fun h => absurd h (by decide))
            refine e_aload_n (i := 0) 71 dX6_ruleHere_70 rfl rfl rfl ?_
            refine e_getr (j := 0) 74 fl_6_12 dX6_ruleHere_71 at_882 rfl rfl tp_882_0 rfl ?_
            refine e_ldcS 76 (i := 8) (by decide) rfl rfl dX6_ruleHere_74 rfl ?_
            refine e_callV 79 mt_yX9_spells mv_yX9_spells wd_555 (by decide) dX6_ruleHere_76 at_883 jc_9 rfl rfl rfl (Nat.le_of_ble_eq_true rfl) (jroom (by decide)) rfl (c_spells_8 hM hZ hI (fun w76 => ?_) (fun w76 => ?_))
            · dsimp only [jpush]
              refine e_if_eq 82 86 dX6_ruleHere_79 (by decide) (by decide) rfl (fun h => absurd h (by decide)) (fun _ => ?_)
              refine e_iconst 83 dX6_ruleHere_82 rfl ?_
              refine e_goto 87 dX6_ruleHere_83 (by decide) ?_
              refine e_iret dX6_ruleHere_87 ?_
              exact h _ (by omega)
            · dsimp only [jpush]
              refine e_if_eq 82 86 dX6_ruleHere_79 (by decide) (by decide) rfl (fun _ => ?_) (fun h => absurd h (by decide))
              refine e_iconst 87 dX6_ruleHere_86 rfl ?_
              refine e_iret dX6_ruleHere_87 ?_
              exact h _ (by omega)

theorem c_rrule {M Z : jM} {n : Int} {Q : Int → jM → Prop} (hM : CM M n) {s : PS} (hZ : CTk M Z n s) (hI : PI n s) (hw : s.2.2.2.2.1 = 0) (hL : CLw Z s) (h : ∀ W : jM, CTk M W n (pRule (M 931) n s) → ((pRule (M 931) n s).2.2.2.2.1 = 0 → CLw W (pRule (M 931) n s)) → Q 0 W) : jCt yX6_readRule cX6_readRule 2 none 7 [jR 882] Z Q := by
  refine jCt_of mt_yX6_readRule (Nat.le_of_ble_eq_true rfl) (fun X => ?_)
  have e3 := hZ.2.2.2.1.1
  have e5 := hZ.2.2.2.1.2.1
  have eT := hZ.2.2.2.1.2.2
  have hi1 := hI.1
  have hi2 := hI.2.1
  have hn0 := hM.1
  have hI0 := hI
  have lt := hL.2.2.2.2
  have hD : LD Z (Z 885) (Z 886) (Z 887) (Z 888) (Z 889) (Z 882 3) := LD.rf
  refine e_aload_n (i := 0) 1 dX6_readRule_0 rfl rfl rfl ?_
  refine e_callV 4 mt_yX6_ruleHere mv_yX6_ruleHere wd_634 (by decide) dX6_readRule_1 at_882 jc_6 rfl rfl rfl (Nat.le_of_ble_eq_true rfl) (jroom (by decide)) rfl (c_rule hM hZ hI (fun rr1 w1 => ?_))
  dsimp only [jpush]
  refine e_istore_n (i := 1) (lsn := [(1, _), (0, _)]) 5 dX6_readRule_4 rfl (by decide) rfl rfl ?_
  refine e_iload_n (i := 1) 6 dX6_readRule_5 rfl rfl rfl ?_
  refine e_iconst 7 dX6_readRule_6 rfl ?_
  refine e_icmp_ne 10 16 dX6_readRule_7 (by omega) (by decide) (by decide) rfl (fun b7 => ?_) (fun b7 => ?_)
  · skip
    have hk : 3 ≤ s.2.2.1 ∧ s.2.2.1 ≤ 8 := by omega
    have er : rr1 = s.2.2.1 - 3 := by omega
    subst er
    refine e_aload_n (i := 0) 17 dX6_readRule_16 rfl rfl rfl ?_
    refine e_geti (j := 3) 20 fl_6_32 dX6_readRule_17 at_882 (by decide) rfl rfl (fun r17 => ?_)
    rw [lt] at r17 ⊢
    refine e_iload_n (i := 1) 21 dX6_readRule_20 rfl rfl rfl ?_
    refine e_ishr 22 dX6_readRule_21 rfl ?_
    refine e_iconst 23 dX6_readRule_22 rfl ?_
    refine e_iand 24 dX6_readRule_23 rfl ?_
    refine e_iconst 25 dX6_readRule_24 rfl ?_
    have hja := jand_1 (jshr s.2.2.2.2.2.2.2.2.1 (s.2.2.1 - 3))
    refine e_icmp_ne 28 34 dX6_readRule_25 (by omega) (by decide) (by decide) rfl (fun b25 => ?_) (fun b25 => ?_)
    · skip
      refine e_aload_n (i := 0) 35 dX6_readRule_34 rfl rfl rfl ?_
      refine e_dup 36 dX6_readRule_35 rfl rfl ?_
      refine e_geti (j := 3) 39 fl_6_32 dX6_readRule_36 at_882 (by decide) rfl rfl (fun r36 => ?_)
      rw [lt] at r36 ⊢
      refine e_iconst 40 dX6_readRule_39 rfl ?_
      refine e_iload_n (i := 1) 41 dX6_readRule_40 rfl rfl rfl ?_
      refine e_ishl 42 dX6_readRule_41 rfl ?_
      refine e_ior 43 dX6_readRule_42 rfl ?_
      refine e_puti (j := 3) 46 fl_6_32 dX6_readRule_43 at_882 rfl rfl rfl (jor_in _ _) rfl ?_
      obtain ⟨Zt, hZt⟩ : ∃ Y, Y = jset Z 882 3 (jor s.2.2.2.2.2.2.2.2.1 (jshl 1 (s.2.2.1 - 3))) := ⟨_, rfl⟩
      rw [← hZt]
      have hZ : CTk M Zt n (pO1 s) := by
        rw [hZt]
        exact hZ.told
      have hI : PI n (pO1 s) := hI
      have hD := hD.tl (x := jor s.2.2.2.2.2.2.2.2.1 (jshl 1 (s.2.2.1 - 3)))
      rw [← hZt] at hD
      refine e_aload_n (i := 0) 47 dX6_readRule_46 rfl rfl rfl ?_
      refine e_getr (j := 0) 50 fl_6_12 dX6_readRule_47 at_882 rfl rfl tp_882_0 rfl ?_
      refine e_callV 53 mt_yX9_step mv_yX9_step wd_615 (by decide) dX6_readRule_50 at_883 jc_9 rfl rfl rfl (Nat.le_of_ble_eq_true rfl) (jroom (by decide)) rfl (c_stp (s := pO1 s) hM hZ hI (by exact hw) (fun W50 hW50 hO50 => ?_))
      dsimp only [jpush]
      (try simp (disch := omega) only [jset_k, jset_j, jset_same, true_and, and_true] at W50 hW50 hO50)
      obtain ⟨s2, e2⟩ : ∃ z, z = pO2 (M 931) n s := ⟨_, rfl⟩
      have g2 : pNext (M 931) n (pO1 s) = s2 := e2.symm
      have k2 := (pc_next hM hI hw).1
      rw [g2] at hW50 k2
      have hZ := hW50
      have hI := k2.1
      have hD := hD.co hO50
      refine e_aload_n (i := 0) 54 dX6_readRule_53 rfl rfl rfl ?_
      refine e_getr (j := 1) 57 fl_6_21 dX6_readRule_54 at_882 rfl rfl tp_882_1 rfl ?_
      refine e_getr (j := 4) 60 fl_6_107 dX6_readRule_57 at_885 rfl rfl tp_885_4 rfl ?_
      refine e_iload_n (i := 1) 61 dX6_readRule_60 rfl rfl rfl ?_
      refine e_aload_n (i := 0) 62 dX6_readRule_61 rfl rfl rfl ?_
      refine e_getsN 65 (i := 1) (by decide) (by decide +kernel) dX6_readRule_62 rfl ?_
      refine e_iload_n (i := 1) 66 dX6_readRule_65 rfl rfl rfl ?_
      refine e_tald 67 (i := 1) (by decide) dX6_readRule_66 (by omega) (by have : (jzt 1).length = 6 := rfl; omega) rfl ?_
      refine e_getsN 70 (i := 2) (by decide) (by decide +kernel) dX6_readRule_67 rfl ?_
      refine e_iload_n (i := 1) 71 dX6_readRule_70 rfl rfl rfl ?_
      refine e_tald 72 (i := 2) (by decide) dX6_readRule_71 (by omega) (by have : (jzt 2).length = 6 := rfl; omega) rfl ?_
      rw [(o_tab hk rfl).1, (o_tab hk rfl).2]
      have hl := olo_r s.2.2.1
      have hh := ohi_r s.2.2.1
      refine e_callV 75 mt_yX6_passNumber mv_yX6_passNumber wd_620 (by decide) dX6_readRule_72 at_882 jc_6 rfl rfl rfl (Nat.le_of_ble_eq_true rfl) (jroom (by decide)) rfl (c_pnum hM hZ hI (by omega) (by omega) (fun W72 r72 hW72 hO72 hr72 hv72 => ?_))
      dsimp only [jpush]
      (try simp (disch := omega) only [jset_k, jset_j, jset_same, true_and, and_true] at W72 r72 hW72 hO72 hr72 hv72)
      obtain ⟨s3, e3⟩ : ∃ z, z = pO3 (M 931) n s := ⟨_, rfl⟩
      have g3 : pRead (M 931) n (oLo s.2.2.1) (oHi s.2.2.1) s2 = s3 := by
        rw [e3, pO3, ← e2]
      rw [g3] at hW72 hv72
      have hZ := hW72
      have hD := (hD.co hO72).s9 (i := s.2.2.1 - 3) (x := r72)
      refine e_iast 76 dX6_readRule_75 ar_889 (by omega) (by omega) (by omega) rfl ?_
      refine e_vret dX6_readRule_76 ?_
      have e : pRule (M 931) n s = pO4 (M 931) n s := by
        rw [pRule, if_pos hk, pOnce, if_neg (by omega)]
      rw [e] at h
      refine h _ ?_ (fun q => ?_)
      · have q := hZ.set (k := 889) (i := s.2.2.1 - 3) (v := r72) (by omega)
        rw [e3] at q
        exact q
      · have q7 : s3.2.2.2.2.1 = 0 := by
          rw [e3]
          exact q
        refine lw_once hM hI0 hw hk hL (r := r72) ?_ (by rw [lt]; exact hD)
        rw [← e2]
        exact hv72 q7
    · skip
      refine e_aload_n (i := 0) 29 dX6_readRule_28 rfl rfl rfl ?_
      refine e_iconst 30 dX6_readRule_29 rfl ?_
      refine e_callV 33 mt_yX6_refuse mv_yX6_refuse wd_611 (by decide) dX6_readRule_30 at_882 jc_6 rfl rfl rfl (Nat.le_of_ble_eq_true rfl) (jroom (by decide)) rfl (c_rfs hM hZ hI (by omega) (by omega) (fun W30 hW30 hO30 => ?_))
      dsimp only [jpush]
      (try simp (disch := omega) only [jset_k, jset_j, jset_same, true_and, and_true] at W30 hW30 hO30)
      refine e_vret dX6_readRule_33 ?_
      have e : pRule (M 931) n s = pFail 4 s := by
        rw [pRule, if_pos hk, pOnce, if_pos (by omega)]
      rw [e] at h
      exact h _ hW30 (fun q => absurd q (pk_fail (f := 4) (by omega) hI).2)
  · skip
    refine e_aload_n (i := 0) 11 dX6_readRule_10 rfl rfl rfl ?_
    refine e_iconst 12 dX6_readRule_11 rfl ?_
    refine e_callV 15 mt_yX6_refuse mv_yX6_refuse wd_611 (by decide) dX6_readRule_12 at_882 jc_6 rfl rfl rfl (Nat.le_of_ble_eq_true rfl) (jroom (by decide)) rfl (c_rfs hM hZ hI (by omega) (by omega) (fun W12 hW12 hO12 => ?_))
    dsimp only [jpush]
    (try simp (disch := omega) only [jset_k, jset_j, jset_same, true_and, and_true] at W12 hW12 hO12)
    refine e_vret dX6_readRule_15 ?_
    first
      | (exfalso; omega)
      | (have e : pRule (M 931) n s = pFail 2 s := if_neg (by omega)
         rw [e] at h
         exact h _ hW12 (fun q => absurd q (pk_fail (f := 2) (by omega) hI).2))

