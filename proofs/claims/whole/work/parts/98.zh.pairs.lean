/-! TEXTS *** the class: looks, whole -/
theorem ck_mid {X : jX} {M : jM} {n i m b : Int} {Q : Int → jM → Prop} (hM : CM M n) {t0 : PS} {Z : jM} (hZ : CTk M Z n t0) (hI : PI n t0) (hdp : t0.2.2.2.2.2.2.1 = 0) (hK : CK Z t0 b) (hm : 0 ≤ m ∧ m ≤ 8) (hmw : (qk1 (M 931) n t0).2.2.2.2.1 = 0 → m < 8 ∧ m = t0.2.2.2.2.2.2.2.2.2 65) (hi : 0 ≤ i ∧ i ≤ 401) (h : ∀ V W : jM, CTk M W n (qk5 (M 931) n m t0) → CK V (qk5 (M 931) n m t0) b → CC V W → jE X yX6_readLooks cX6_readLooks 3 (some .boolean) 43 Q W 14 [(0, jR 882), (1, jI n), (2, jI (i + 1))] []) : jE X yX6_readLooks cX6_readLooks 3 (some .boolean) 43 Q Z 65 [(0, jR 882), (1, jI n), (2, jI i)] [] := by
  have e3 := hZ.2.2.2.1.1
  have e5 := hZ.2.2.2.1.2.1
  have eT := hZ.2.2.2.1.2.2
  have hi1 := hI.1
  have hi2 := hI.2.1
  have hn0 := hM.1
  have hI0 := hI
  have hdp2 : (0 : Int) = (qk2 (M 931) n m t0).2.2.2.2.2.2.1 := by
    have e : (qk2 (M 931) n m t0).2.2.2.2.2.2.1 = (qk1 (M 931) n t0).2.2.2.2.2.2.1 := rfl
    rw [e, show (qk1 (M 931) n t0).2.2.2.2.2.2.1 = t0.2.2.2.2.2.2.1 from congrArg (fun z => z.1) (qk1_k hM hI).2.2.2, hdp]
  refine e_aload_n (i := 0) 66 dX6_readLooks_65 rfl rfl rfl ?_
  refine e_aload_n (i := 0) 67 dX6_readLooks_66 rfl rfl rfl ?_
  refine e_getr (j := 0) 70 fl_6_12 dX6_readLooks_67 at_882 rfl rfl tp_882_0 rfl ?_
  refine e_ldcS 72 (i := 9) (by decide) rfl rfl dX6_readLooks_70 rfl ?_
  refine e_callV 75 mt_yX9_spells mv_yX9_spells wd_555 (by decide) dX6_readLooks_72 at_883 jc_9 rfl rfl rfl (Nat.le_of_ble_eq_true rfl) (jroom (by decide)) rfl (c_spells_9 hM hZ hI (fun w72 => ?_) (fun w72 => ?_))
  · dsimp only [jpush]
    refine e_callV 78 mt_yX6_pass mv_yX6_pass wd_625 (by decide) dX6_readLooks_75 at_882 jc_6 rfl rfl rfl (Nat.le_of_ble_eq_true rfl) (jroom (by decide)) rfl (c_pass (k := 9) hM hZ hI (by omega) (fun W75 hW75 hO75 => ?_))
    dsimp only [jpush]
    (try simp (disch := omega) only [jset_k, jset_j, jset_same, true_and, and_true] at W75 hW75 hO75)
    have hZ := hW75
    have k1 := pc_must (k := 9) hM hI
    have hK := hK.pk hO75 k1
    have hI := k1.1
    refine e_aload_n (i := 0) 79 dX6_readLooks_78 rfl rfl rfl ?_
    refine e_aload_n (i := 0) 80 dX6_readLooks_79 rfl rfl rfl ?_
    refine e_getr (j := 0) 83 fl_6_12 dX6_readLooks_80 at_882 rfl rfl tp_882_0 rfl ?_
    refine e_ldcS 85 (i := 10) (by decide) rfl rfl dX6_readLooks_83 rfl ?_
    refine e_callV 88 mt_yX9_spells mv_yX9_spells wd_555 (by decide) dX6_readLooks_85 at_883 jc_9 rfl rfl rfl (Nat.le_of_ble_eq_true rfl) (jroom (by decide)) rfl (c_spells_10 hM hZ hI (fun w85 => ?_) (fun w85 => ?_))
    · dsimp only [jpush]
      (try simp (disch := omega) only [jset_k, jset_j, jset_same, true_and, and_true] at w85)
      refine e_callV 91 mt_yX6_pass mv_yX6_pass wd_625 (by decide) dX6_readLooks_88 at_882 jc_6 rfl rfl rfl (Nat.le_of_ble_eq_true rfl) (jroom (by decide)) rfl (c_pass (k := 10) hM hZ hI (by omega) (fun W88 hW88 hO88 => ?_))
      dsimp only [jpush]
      (try simp (disch := omega) only [jset_k, jset_j, jset_same, true_and, and_true] at W88 hW88 hO88)
      have k2 := pc_must (k := 10) hM hI
      have hK1 : CK W88 (qk1 (M 931) n t0) b := hK.pk hO88 k2
      have hZ2 : CTk M W88 n (qk2 (M 931) n m t0) := hW88
      have hK2 : CK W88 (qk2 (M 931) n m t0) b := CK.set (s := qk1 (M 931) n t0) (i := 66 + m) hK1 (by omega) (fun e => by
        have q := hmw e
        have qs := (qk1_k hM hI0).1.2.2.2.2.1
        have qa := (qk1_k hM hI0).pa
        refine ⟨by omega, by omega, fun j a d => ?_⟩
        rw [qa] at d
        omega)
      have hI2 := qk2_i hM hI0 hm
      have hp2 := hI2.1
      refine e_aload_n (i := 0) 92 dX6_readLooks_91 rfl rfl rfl ?_
      refine e_iconst 93 dX6_readLooks_92 rfl ?_
      refine e_callV 96 mt_yX6_readTest mv_yX6_readTest wd_662 (by decide) dX6_readLooks_93 at_882 jc_6 rfl rfl rfl (Nat.le_of_ble_eq_true rfl) (jroom (by decide)) rfl ((cls_parse hM 2010).2.2.1 (qk2 (M 931) n m t0) _ b _ _ 8 hZ2 hI2 hK2 hdp2 (by omega) (by omega) (fun W93 hW93 hK93 => ?_))
      dsimp only [jpush]
      (try simp (disch := omega) only [jset_k, jset_j, jset_same, true_and, and_true] at W93 hW93 hK93)
      have q3 := qk3_q hM hI0 hm
      have hZ : CTk M W93 n (qk4 (M 931) n m t0) := hW93
      have hK : CK W93 (qk4 (M 931) n m t0) b := CK.set (s := qk3 (M 931) n m t0) (i := 74 + m) hK93 (by omega) (fun e => by
        have e1 : (qk1 (M 931) n t0).2.2.2.2.1 = 0 := by
          by_cases c : (qk1 (M 931) n t0).2.2.2.2.1 = 0
          · exact c
          · have z := q3.2.2.2.2.2.2 c
            rw [z] at e
            exact e
        have q := hmw e1
        have qs := q3.1.2.2.2.2.1
        have qt := hI2.2.2.2.2.1
        have qa : (qk3 (M 931) n m t0).2.2.2.2.2.2.2.2.2 65 = t0.2.2.2.2.2.2.2.2.2 65 := by
          rw [q3.2.2.2.2.2.1 65 (by omega)]
          show upd1 (qk1 (M 931) n t0).2.2.2.2.2.2.2.2.2 (66 + m) _ 65 = _
          rw [u2 (by omega), (qk1_k hM hI0).pa]
        refine ⟨by omega, by omega, fun j a d => ?_⟩
        rw [qa] at d
        omega)
      have hI := qk4_i hM hI0 hm
      refine e_aload_n (i := 0) 97 dX6_readLooks_96 rfl rfl rfl ?_
      refine e_aload_n (i := 0) 98 dX6_readLooks_97 rfl rfl rfl ?_
      refine e_getr (j := 0) 101 fl_6_12 dX6_readLooks_98 at_882 rfl rfl tp_882_0 rfl ?_
      refine e_bipush 103 dX6_readLooks_101 (by decide) rfl ?_
      refine e_callV 106 mt_yX9_isSign mv_yX9_isSign wd_648 (by decide) dX6_readLooks_103 at_883 jc_9 rfl rfl rfl (Nat.le_of_ble_eq_true rfl) (jroom (by decide)) rfl (c_isSign (k := 22) hM hZ hI (by omega) (fun w103 => ?_) (fun w103 => ?_))
      · dsimp only [jpush]
        (try simp (disch := omega) only [jset_k, jset_j, jset_same, true_and, and_true] at w103)
        refine e_callV 109 mt_yX6_pass mv_yX6_pass wd_625 (by decide) dX6_readLooks_106 at_882 jc_6 rfl rfl rfl (Nat.le_of_ble_eq_true rfl) (jroom (by decide)) rfl (c_pass (k := 22) hM hZ hI (by omega) (fun W106 hW106 hO106 => ?_))
        dsimp only [jpush]
        (try simp (disch := omega) only [jset_k, jset_j, jset_same, true_and, and_true] at W106 hW106 hO106)
        have hZ : CTk M W106 n (qk5 (M 931) n m t0) := hW106
        have hK : CK W106 (qk5 (M 931) n m t0) b := hK.pk hO106 (qk5_k hM hI0 hm)
        refine e_aload_n (i := 0) 110 dX6_readLooks_109 rfl rfl rfl ?_
        refine e_getr (j := 2) 113 fl_6_28 dX6_readLooks_110 at_882 rfl rfl tp_882_2 rfl ?_
        refine e_callV 116 mt_yX2_close mv_yX2_close wd_699 (by decide) dX6_readLooks_113 at_890 jc_2 rfl rfl rfl (Nat.le_of_ble_eq_true rfl) (jroom (by decide)) rfl (c_lclose hK.1 (fun W113 hC113 => ?_))
        dsimp only [jpush]
        (try simp (disch := omega) only [jset_k, jset_j, jset_same, true_and, and_true] at W113 hC113)
        refine e_iinc (lsn := [(2, _), (0, _), (1, _)]) 119 dX6_readLooks_116 rfl (by decide) rfl rfl ?_
        refine e_goto 14 dX6_readLooks_119 (by decide) ?_
        refine e_ls (ls2 := [(0, _), (1, _), (2, _)]) rfl ?_
        exact h _ _ (hZ.cc hC113) hK hC113
      · dsimp only [jpush]
        (try simp (disch := omega) only [jset_k, jset_j, jset_same, true_and, and_true] at w103)
        refine e_callV 109 mt_yX6_pass mv_yX6_pass wd_625 (by decide) dX6_readLooks_106 at_882 jc_6 rfl rfl rfl (Nat.le_of_ble_eq_true rfl) (jroom (by decide)) rfl (c_pass (k := 22) hM hZ hI (by omega) (fun W106 hW106 hO106 => ?_))
        dsimp only [jpush]
        (try simp (disch := omega) only [jset_k, jset_j, jset_same, true_and, and_true] at W106 hW106 hO106)
        have hZ : CTk M W106 n (qk5 (M 931) n m t0) := hW106
        have hK : CK W106 (qk5 (M 931) n m t0) b := hK.pk hO106 (qk5_k hM hI0 hm)
        refine e_aload_n (i := 0) 110 dX6_readLooks_109 rfl rfl rfl ?_
        refine e_getr (j := 2) 113 fl_6_28 dX6_readLooks_110 at_882 rfl rfl tp_882_2 rfl ?_
        refine e_callV 116 mt_yX2_close mv_yX2_close wd_699 (by decide) dX6_readLooks_113 at_890 jc_2 rfl rfl rfl (Nat.le_of_ble_eq_true rfl) (jroom (by decide)) rfl (c_lclose hK.1 (fun W113 hC113 => ?_))
        dsimp only [jpush]
        (try simp (disch := omega) only [jset_k, jset_j, jset_same, true_and, and_true] at W113 hC113)
        refine e_iinc (lsn := [(2, _), (0, _), (1, _)]) 119 dX6_readLooks_116 rfl (by decide) rfl rfl ?_
        refine e_goto 14 dX6_readLooks_119 (by decide) ?_
        refine e_ls (ls2 := [(0, _), (1, _), (2, _)]) rfl ?_
        exact h _ _ (hZ.cc hC113) hK hC113
    · dsimp only [jpush]
      (try simp (disch := omega) only [jset_k, jset_j, jset_same, true_and, and_true] at w85)
      refine e_callV 91 mt_yX6_pass mv_yX6_pass wd_625 (by decide) dX6_readLooks_88 at_882 jc_6 rfl rfl rfl (Nat.le_of_ble_eq_true rfl) (jroom (by decide)) rfl (c_pass (k := 10) hM hZ hI (by omega) (fun W88 hW88 hO88 => ?_))
      dsimp only [jpush]
      (try simp (disch := omega) only [jset_k, jset_j, jset_same, true_and, and_true] at W88 hW88 hO88)
      have k2 := pc_must (k := 10) hM hI
      have hK1 : CK W88 (qk1 (M 931) n t0) b := hK.pk hO88 k2
      have hZ2 : CTk M W88 n (qk2 (M 931) n m t0) := hW88
      have hK2 : CK W88 (qk2 (M 931) n m t0) b := CK.set (s := qk1 (M 931) n t0) (i := 66 + m) hK1 (by omega) (fun e => by
        have q := hmw e
        have qs := (qk1_k hM hI0).1.2.2.2.2.1
        have qa := (qk1_k hM hI0).pa
        refine ⟨by omega, by omega, fun j a d => ?_⟩
        rw [qa] at d
        omega)
      have hI2 := qk2_i hM hI0 hm
      have hp2 := hI2.1
      refine e_aload_n (i := 0) 92 dX6_readLooks_91 rfl rfl rfl ?_
      refine e_iconst 93 dX6_readLooks_92 rfl ?_
      refine e_callV 96 mt_yX6_readTest mv_yX6_readTest wd_662 (by decide) dX6_readLooks_93 at_882 jc_6 rfl rfl rfl (Nat.le_of_ble_eq_true rfl) (jroom (by decide)) rfl ((cls_parse hM 2010).2.2.1 (qk2 (M 931) n m t0) _ b _ _ 8 hZ2 hI2 hK2 hdp2 (by omega) (by omega) (fun W93 hW93 hK93 => ?_))
      dsimp only [jpush]
      (try simp (disch := omega) only [jset_k, jset_j, jset_same, true_and, and_true] at W93 hW93 hK93)
      have q3 := qk3_q hM hI0 hm
      have hZ : CTk M W93 n (qk4 (M 931) n m t0) := hW93
      have hK : CK W93 (qk4 (M 931) n m t0) b := CK.set (s := qk3 (M 931) n m t0) (i := 74 + m) hK93 (by omega) (fun e => by
        have e1 : (qk1 (M 931) n t0).2.2.2.2.1 = 0 := by
          by_cases c : (qk1 (M 931) n t0).2.2.2.2.1 = 0
          · exact c
          · have z := q3.2.2.2.2.2.2 c
            rw [z] at e
            exact e
        have q := hmw e1
        have qs := q3.1.2.2.2.2.1
        have qt := hI2.2.2.2.2.1
        have qa : (qk3 (M 931) n m t0).2.2.2.2.2.2.2.2.2 65 = t0.2.2.2.2.2.2.2.2.2 65 := by
          rw [q3.2.2.2.2.2.1 65 (by omega)]
          show upd1 (qk1 (M 931) n t0).2.2.2.2.2.2.2.2.2 (66 + m) _ 65 = _
          rw [u2 (by omega), (qk1_k hM hI0).pa]
        refine ⟨by omega, by omega, fun j a d => ?_⟩
        rw [qa] at d
        omega)
      have hI := qk4_i hM hI0 hm
      refine e_aload_n (i := 0) 97 dX6_readLooks_96 rfl rfl rfl ?_
      refine e_aload_n (i := 0) 98 dX6_readLooks_97 rfl rfl rfl ?_
      refine e_getr (j := 0) 101 fl_6_12 dX6_readLooks_98 at_882 rfl rfl tp_882_0 rfl ?_
      refine e_bipush 103 dX6_readLooks_101 (by decide) rfl ?_
      refine e_callV 106 mt_yX9_isSign mv_yX9_isSign wd_648 (by decide) dX6_readLooks_103 at_883 jc_9 rfl rfl rfl (Nat.le_of_ble_eq_true rfl) (jroom (by decide)) rfl (c_isSign (k := 22) hM hZ hI (by omega) (fun w103 => ?_) (fun w103 => ?_))
      · dsimp only [jpush]
        (try simp (disch := omega) only [jset_k, jset_j, jset_same, true_and, and_true] at w103)
        refine e_callV 109 mt_yX6_pass mv_yX6_pass wd_625 (by decide) dX6_readLooks_106 at_882 jc_6 rfl rfl rfl (Nat.le_of_ble_eq_true rfl) (jroom (by decide)) rfl (c_pass (k := 22) hM hZ hI (by omega) (fun W106 hW106 hO106 => ?_))
        dsimp only [jpush]
        (try simp (disch := omega) only [jset_k, jset_j, jset_same, true_and, and_true] at W106 hW106 hO106)
        have hZ : CTk M W106 n (qk5 (M 931) n m t0) := hW106
        have hK : CK W106 (qk5 (M 931) n m t0) b := hK.pk hO106 (qk5_k hM hI0 hm)
        refine e_aload_n (i := 0) 110 dX6_readLooks_109 rfl rfl rfl ?_
        refine e_getr (j := 2) 113 fl_6_28 dX6_readLooks_110 at_882 rfl rfl tp_882_2 rfl ?_
        refine e_callV 116 mt_yX2_close mv_yX2_close wd_699 (by decide) dX6_readLooks_113 at_890 jc_2 rfl rfl rfl (Nat.le_of_ble_eq_true rfl) (jroom (by decide)) rfl (c_lclose hK.1 (fun W113 hC113 => ?_))
        dsimp only [jpush]
        (try simp (disch := omega) only [jset_k, jset_j, jset_same, true_and, and_true] at W113 hC113)
        refine e_iinc (lsn := [(2, _), (0, _), (1, _)]) 119 dX6_readLooks_116 rfl (by decide) rfl rfl ?_
        refine e_goto 14 dX6_readLooks_119 (by decide) ?_
        refine e_ls (ls2 := [(0, _), (1, _), (2, _)]) rfl ?_
        exact h _ _ (hZ.cc hC113) hK hC113
      · dsimp only [jpush]
        (try simp (disch := omega) only [jset_k, jset_j, jset_same, true_and, and_true] at w103)
        refine e_callV 109 mt_yX6_pass mv_yX6_pass wd_625 (by decide) dX6_readLooks_106 at_882 jc_6 rfl rfl rfl (Nat.le_of_ble_eq_true rfl) (jroom (by decide)) rfl (c_pass (k := 22) hM hZ hI (by omega) (fun W106 hW106 hO106 => ?_))
        dsimp only [jpush]
        (try simp (disch := omega) only [jset_k, jset_j, jset_same, true_and, and_true] at W106 hW106 hO106)
        have hZ : CTk M W106 n (qk5 (M 931) n m t0) := hW106
        have hK : CK W106 (qk5 (M 931) n m t0) b := hK.pk hO106 (qk5_k hM hI0 hm)
        refine e_aload_n (i := 0) 110 dX6_readLooks_109 rfl rfl rfl ?_
        refine e_getr (j := 2) 113 fl_6_28 dX6_readLooks_110 at_882 rfl rfl tp_882_2 rfl ?_
        refine e_callV 116 mt_yX2_close mv_yX2_close wd_699 (by decide) dX6_readLooks_113 at_890 jc_2 rfl rfl rfl (Nat.le_of_ble_eq_true rfl) (jroom (by decide)) rfl (c_lclose hK.1 (fun W113 hC113 => ?_))
        dsimp only [jpush]
        (try simp (disch := omega) only [jset_k, jset_j, jset_same, true_and, and_true] at W113 hC113)
        refine e_iinc (lsn := [(2, _), (0, _), (1, _)]) 119 dX6_readLooks_116 rfl (by decide) rfl rfl ?_
        refine e_goto 14 dX6_readLooks_119 (by decide) ?_
        refine e_ls (ls2 := [(0, _), (1, _), (2, _)]) rfl ?_
        exact h _ _ (hZ.cc hC113) hK hC113
  · dsimp only [jpush]
    refine e_callV 78 mt_yX6_pass mv_yX6_pass wd_625 (by decide) dX6_readLooks_75 at_882 jc_6 rfl rfl rfl (Nat.le_of_ble_eq_true rfl) (jroom (by decide)) rfl (c_pass (k := 9) hM hZ hI (by omega) (fun W75 hW75 hO75 => ?_))
    dsimp only [jpush]
    (try simp (disch := omega) only [jset_k, jset_j, jset_same, true_and, and_true] at W75 hW75 hO75)
    have hZ := hW75
    have k1 := pc_must (k := 9) hM hI
    have hK := hK.pk hO75 k1
    have hI := k1.1
    refine e_aload_n (i := 0) 79 dX6_readLooks_78 rfl rfl rfl ?_
    refine e_aload_n (i := 0) 80 dX6_readLooks_79 rfl rfl rfl ?_
    refine e_getr (j := 0) 83 fl_6_12 dX6_readLooks_80 at_882 rfl rfl tp_882_0 rfl ?_
    refine e_ldcS 85 (i := 10) (by decide) rfl rfl dX6_readLooks_83 rfl ?_
    refine e_callV 88 mt_yX9_spells mv_yX9_spells wd_555 (by decide) dX6_readLooks_85 at_883 jc_9 rfl rfl rfl (Nat.le_of_ble_eq_true rfl) (jroom (by decide)) rfl (c_spells_10 hM hZ hI (fun w85 => ?_) (fun w85 => ?_))
    · dsimp only [jpush]
      (try simp (disch := omega) only [jset_k, jset_j, jset_same, true_and, and_true] at w85)
      refine e_callV 91 mt_yX6_pass mv_yX6_pass wd_625 (by decide) dX6_readLooks_88 at_882 jc_6 rfl rfl rfl (Nat.le_of_ble_eq_true rfl) (jroom (by decide)) rfl (c_pass (k := 10) hM hZ hI (by omega) (fun W88 hW88 hO88 => ?_))
      dsimp only [jpush]
      (try simp (disch := omega) only [jset_k, jset_j, jset_same, true_and, and_true] at W88 hW88 hO88)
      have k2 := pc_must (k := 10) hM hI
      have hK1 : CK W88 (qk1 (M 931) n t0) b := hK.pk hO88 k2
      have hZ2 : CTk M W88 n (qk2 (M 931) n m t0) := hW88
      have hK2 : CK W88 (qk2 (M 931) n m t0) b := CK.set (s := qk1 (M 931) n t0) (i := 66 + m) hK1 (by omega) (fun e => by
        have q := hmw e
        have qs := (qk1_k hM hI0).1.2.2.2.2.1
        have qa := (qk1_k hM hI0).pa
        refine ⟨by omega, by omega, fun j a d => ?_⟩
        rw [qa] at d
        omega)
      have hI2 := qk2_i hM hI0 hm
      have hp2 := hI2.1
      refine e_aload_n (i := 0) 92 dX6_readLooks_91 rfl rfl rfl ?_
      refine e_iconst 93 dX6_readLooks_92 rfl ?_
      refine e_callV 96 mt_yX6_readTest mv_yX6_readTest wd_662 (by decide) dX6_readLooks_93 at_882 jc_6 rfl rfl rfl (Nat.le_of_ble_eq_true rfl) (jroom (by decide)) rfl ((cls_parse hM 2010).2.2.1 (qk2 (M 931) n m t0) _ b _ _ 8 hZ2 hI2 hK2 hdp2 (by omega) (by omega) (fun W93 hW93 hK93 => ?_))
      dsimp only [jpush]
      (try simp (disch := omega) only [jset_k, jset_j, jset_same, true_and, and_true] at W93 hW93 hK93)
      have q3 := qk3_q hM hI0 hm
      have hZ : CTk M W93 n (qk4 (M 931) n m t0) := hW93
      have hK : CK W93 (qk4 (M 931) n m t0) b := CK.set (s := qk3 (M 931) n m t0) (i := 74 + m) hK93 (by omega) (fun e => by
        have e1 : (qk1 (M 931) n t0).2.2.2.2.1 = 0 := by
          by_cases c : (qk1 (M 931) n t0).2.2.2.2.1 = 0
          · exact c
          · have z := q3.2.2.2.2.2.2 c
            rw [z] at e
            exact e
        have q := hmw e1
        have qs := q3.1.2.2.2.2.1
        have qt := hI2.2.2.2.2.1
        have qa : (qk3 (M 931) n m t0).2.2.2.2.2.2.2.2.2 65 = t0.2.2.2.2.2.2.2.2.2 65 := by
          rw [q3.2.2.2.2.2.1 65 (by omega)]
          show upd1 (qk1 (M 931) n t0).2.2.2.2.2.2.2.2.2 (66 + m) _ 65 = _
          rw [u2 (by omega), (qk1_k hM hI0).pa]
        refine ⟨by omega, by omega, fun j a d => ?_⟩
        rw [qa] at d
        omega)
      have hI := qk4_i hM hI0 hm
      refine e_aload_n (i := 0) 97 dX6_readLooks_96 rfl rfl rfl ?_
      refine e_aload_n (i := 0) 98 dX6_readLooks_97 rfl rfl rfl ?_
      refine e_getr (j := 0) 101 fl_6_12 dX6_readLooks_98 at_882 rfl rfl tp_882_0 rfl ?_
      refine e_bipush 103 dX6_readLooks_101 (by decide) rfl ?_
      refine e_callV 106 mt_yX9_isSign mv_yX9_isSign wd_648 (by decide) dX6_readLooks_103 at_883 jc_9 rfl rfl rfl (Nat.le_of_ble_eq_true rfl) (jroom (by decide)) rfl (c_isSign (k := 22) hM hZ hI (by omega) (fun w103 => ?_) (fun w103 => ?_))
      · dsimp only [jpush]
        (try simp (disch := omega) only [jset_k, jset_j, jset_same, true_and, and_true] at w103)
        refine e_callV 109 mt_yX6_pass mv_yX6_pass wd_625 (by decide) dX6_readLooks_106 at_882 jc_6 rfl rfl rfl (Nat.le_of_ble_eq_true rfl) (jroom (by decide)) rfl (c_pass (k := 22) hM hZ hI (by omega) (fun W106 hW106 hO106 => ?_))
        dsimp only [jpush]
        (try simp (disch := omega) only [jset_k, jset_j, jset_same, true_and, and_true] at W106 hW106 hO106)
        have hZ : CTk M W106 n (qk5 (M 931) n m t0) := hW106
        have hK : CK W106 (qk5 (M 931) n m t0) b := hK.pk hO106 (qk5_k hM hI0 hm)
        refine e_aload_n (i := 0) 110 dX6_readLooks_109 rfl rfl rfl ?_
        refine e_getr (j := 2) 113 fl_6_28 dX6_readLooks_110 at_882 rfl rfl tp_882_2 rfl ?_
        refine e_callV 116 mt_yX2_close mv_yX2_close wd_699 (by decide) dX6_readLooks_113 at_890 jc_2 rfl rfl rfl (Nat.le_of_ble_eq_true rfl) (jroom (by decide)) rfl (c_lclose hK.1 (fun W113 hC113 => ?_))
        dsimp only [jpush]
        (try simp (disch := omega) only [jset_k, jset_j, jset_same, true_and, and_true] at W113 hC113)
        refine e_iinc (lsn := [(2, _), (0, _), (1, _)]) 119 dX6_readLooks_116 rfl (by decide) rfl rfl ?_
        refine e_goto 14 dX6_readLooks_119 (by decide) ?_
        refine e_ls (ls2 := [(0, _), (1, _), (2, _)]) rfl ?_
        exact h _ _ (hZ.cc hC113) hK hC113
      · dsimp only [jpush]
        (try simp (disch := omega) only [jset_k, jset_j, jset_same, true_and, and_true] at w103)
        refine e_callV 109 mt_yX6_pass mv_yX6_pass wd_625 (by decide) dX6_readLooks_106 at_882 jc_6 rfl rfl rfl (Nat.le_of_ble_eq_true rfl) (jroom (by decide)) rfl (c_pass (k := 22) hM hZ hI (by omega) (fun W106 hW106 hO106 => ?_))
        dsimp only [jpush]
        (try simp (disch := omega) only [jset_k, jset_j, jset_same, true_and, and_true] at W106 hW106 hO106)
        have hZ : CTk M W106 n (qk5 (M 931) n m t0) := hW106
        have hK : CK W106 (qk5 (M 931) n m t0) b := hK.pk hO106 (qk5_k hM hI0 hm)
        refine e_aload_n (i := 0) 110 dX6_readLooks_109 rfl rfl rfl ?_
        refine e_getr (j := 2) 113 fl_6_28 dX6_readLooks_110 at_882 rfl rfl tp_882_2 rfl ?_
        refine e_callV 116 mt_yX2_close mv_yX2_close wd_699 (by decide) dX6_readLooks_113 at_890 jc_2 rfl rfl rfl (Nat.le_of_ble_eq_true rfl) (jroom (by decide)) rfl (c_lclose hK.1 (fun W113 hC113 => ?_))
        dsimp only [jpush]
        (try simp (disch := omega) only [jset_k, jset_j, jset_same, true_and, and_true] at W113 hC113)
        refine e_iinc (lsn := [(2, _), (0, _), (1, _)]) 119 dX6_readLooks_116 rfl (by decide) rfl rfl ?_
        refine e_goto 14 dX6_readLooks_119 (by decide) ?_
        refine e_ls (ls2 := [(0, _), (1, _), (2, _)]) rfl ?_
        exact h _ _ (hZ.cc hC113) hK hC113
    · dsimp only [jpush]
      (try simp (disch := omega) only [jset_k, jset_j, jset_same, true_and, and_true] at w85)
      refine e_callV 91 mt_yX6_pass mv_yX6_pass wd_625 (by decide) dX6_readLooks_88 at_882 jc_6 rfl rfl rfl (Nat.le_of_ble_eq_true rfl) (jroom (by decide)) rfl (c_pass (k := 10) hM hZ hI (by omega) (fun W88 hW88 hO88 => ?_))
      dsimp only [jpush]
      (try simp (disch := omega) only [jset_k, jset_j, jset_same, true_and, and_true] at W88 hW88 hO88)
      have k2 := pc_must (k := 10) hM hI
      have hK1 : CK W88 (qk1 (M 931) n t0) b := hK.pk hO88 k2
      have hZ2 : CTk M W88 n (qk2 (M 931) n m t0) := hW88
      have hK2 : CK W88 (qk2 (M 931) n m t0) b := CK.set (s := qk1 (M 931) n t0) (i := 66 + m) hK1 (by omega) (fun e => by
        have q := hmw e
        have qs := (qk1_k hM hI0).1.2.2.2.2.1
        have qa := (qk1_k hM hI0).pa
        refine ⟨by omega, by omega, fun j a d => ?_⟩
        rw [qa] at d
        omega)
      have hI2 := qk2_i hM hI0 hm
      have hp2 := hI2.1
      refine e_aload_n (i := 0) 92 dX6_readLooks_91 rfl rfl rfl ?_
      refine e_iconst 93 dX6_readLooks_92 rfl ?_
      refine e_callV 96 mt_yX6_readTest mv_yX6_readTest wd_662 (by decide) dX6_readLooks_93 at_882 jc_6 rfl rfl rfl (Nat.le_of_ble_eq_true rfl) (jroom (by decide)) rfl ((cls_parse hM 2010).2.2.1 (qk2 (M 931) n m t0) _ b _ _ 8 hZ2 hI2 hK2 hdp2 (by omega) (by omega) (fun W93 hW93 hK93 => ?_))
      dsimp only [jpush]
      (try simp (disch := omega) only [jset_k, jset_j, jset_same, true_and, and_true] at W93 hW93 hK93)
      have q3 := qk3_q hM hI0 hm
      have hZ : CTk M W93 n (qk4 (M 931) n m t0) := hW93
      have hK : CK W93 (qk4 (M 931) n m t0) b := CK.set (s := qk3 (M 931) n m t0) (i := 74 + m) hK93 (by omega) (fun e => by
        have e1 : (qk1 (M 931) n t0).2.2.2.2.1 = 0 := by
          by_cases c : (qk1 (M 931) n t0).2.2.2.2.1 = 0
          · exact c
          · have z := q3.2.2.2.2.2.2 c
            rw [z] at e
            exact e
        have q := hmw e1
        have qs := q3.1.2.2.2.2.1
        have qt := hI2.2.2.2.2.1
        have qa : (qk3 (M 931) n m t0).2.2.2.2.2.2.2.2.2 65 = t0.2.2.2.2.2.2.2.2.2 65 := by
          rw [q3.2.2.2.2.2.1 65 (by omega)]
          show upd1 (qk1 (M 931) n t0).2.2.2.2.2.2.2.2.2 (66 + m) _ 65 = _
          rw [u2 (by omega), (qk1_k hM hI0).pa]
        refine ⟨by omega, by omega, fun j a d => ?_⟩
        rw [qa] at d
        omega)
      have hI := qk4_i hM hI0 hm
      refine e_aload_n (i := 0) 97 dX6_readLooks_96 rfl rfl rfl ?_
      refine e_aload_n (i := 0) 98 dX6_readLooks_97 rfl rfl rfl ?_
      refine e_getr (j := 0) 101 fl_6_12 dX6_readLooks_98 at_882 rfl rfl tp_882_0 rfl ?_
      refine e_bipush 103 dX6_readLooks_101 (by decide) rfl ?_
      refine e_callV 106 mt_yX9_isSign mv_yX9_isSign wd_648 (by decide) dX6_readLooks_103 at_883 jc_9 rfl rfl rfl (Nat.le_of_ble_eq_true rfl) (jroom (by decide)) rfl (c_isSign (k := 22) hM hZ hI (by omega) (fun w103 => ?_) (fun w103 => ?_))
      · dsimp only [jpush]
        (try simp (disch := omega) only [jset_k, jset_j, jset_same, true_and, and_true] at w103)
        refine e_callV 109 mt_yX6_pass mv_yX6_pass wd_625 (by decide) dX6_readLooks_106 at_882 jc_6 rfl rfl rfl (Nat.le_of_ble_eq_true rfl) (jroom (by decide)) rfl (c_pass (k := 22) hM hZ hI (by omega) (fun W106 hW106 hO106 => ?_))
        dsimp only [jpush]
        (try simp (disch := omega) only [jset_k, jset_j, jset_same, true_and, and_true] at W106 hW106 hO106)
        have hZ : CTk M W106 n (qk5 (M 931) n m t0) := hW106
        have hK : CK W106 (qk5 (M 931) n m t0) b := hK.pk hO106 (qk5_k hM hI0 hm)
        refine e_aload_n (i := 0) 110 dX6_readLooks_109 rfl rfl rfl ?_
        refine e_getr (j := 2) 113 fl_6_28 dX6_readLooks_110 at_882 rfl rfl tp_882_2 rfl ?_
        refine e_callV 116 mt_yX2_close mv_yX2_close wd_699 (by decide) dX6_readLooks_113 at_890 jc_2 rfl rfl rfl (Nat.le_of_ble_eq_true rfl) (jroom (by decide)) rfl (c_lclose hK.1 (fun W113 hC113 => ?_))
        dsimp only [jpush]
        (try simp (disch := omega) only [jset_k, jset_j, jset_same, true_and, and_true] at W113 hC113)
        refine e_iinc (lsn := [(2, _), (0, _), (1, _)]) 119 dX6_readLooks_116 rfl (by decide) rfl rfl ?_
        refine e_goto 14 dX6_readLooks_119 (by decide) ?_
        refine e_ls (ls2 := [(0, _), (1, _), (2, _)]) rfl ?_
        exact h _ _ (hZ.cc hC113) hK hC113
      · dsimp only [jpush]
        (try simp (disch := omega) only [jset_k, jset_j, jset_same, true_and, and_true] at w103)
        refine e_callV 109 mt_yX6_pass mv_yX6_pass wd_625 (by decide) dX6_readLooks_106 at_882 jc_6 rfl rfl rfl (Nat.le_of_ble_eq_true rfl) (jroom (by decide)) rfl (c_pass (k := 22) hM hZ hI (by omega) (fun W106 hW106 hO106 => ?_))
        dsimp only [jpush]
        (try simp (disch := omega) only [jset_k, jset_j, jset_same, true_and, and_true] at W106 hW106 hO106)
        have hZ : CTk M W106 n (qk5 (M 931) n m t0) := hW106
        have hK : CK W106 (qk5 (M 931) n m t0) b := hK.pk hO106 (qk5_k hM hI0 hm)
        refine e_aload_n (i := 0) 110 dX6_readLooks_109 rfl rfl rfl ?_
        refine e_getr (j := 2) 113 fl_6_28 dX6_readLooks_110 at_882 rfl rfl tp_882_2 rfl ?_
        refine e_callV 116 mt_yX2_close mv_yX2_close wd_699 (by decide) dX6_readLooks_113 at_890 jc_2 rfl rfl rfl (Nat.le_of_ble_eq_true rfl) (jroom (by decide)) rfl (c_lclose hK.1 (fun W113 hC113 => ?_))
        dsimp only [jpush]
        (try simp (disch := omega) only [jset_k, jset_j, jset_same, true_and, and_true] at W113 hC113)
        refine e_iinc (lsn := [(2, _), (0, _), (1, _)]) 119 dX6_readLooks_116 rfl (by decide) rfl rfl ?_
        refine e_goto 14 dX6_readLooks_119 (by decide) ?_
        refine e_ls (ls2 := [(0, _), (1, _), (2, _)]) rfl ?_
        exact h _ _ (hZ.cc hC113) hK hC113

theorem ck_end {X : jX} {M Z : jM} {n i : Int} {Q : Int → jM → Prop} {z : PS} (hZ : CTk M Z n z) (hK : CK Z z z.2.2.2.2.2.2.2.1) (h : ∀ W : jM, CTk M W n z → CK W z z.2.2.2.2.2.2.2.1 → Q (if z.2.2.2.2.1 = 0 then 1 else 0) W) : jE X yX6_readLooks cX6_readLooks 3 (some .boolean) 43 Q Z 122 [(0, jR 882), (1, jI n), (2, jI i)] [] := by
  have ew := hZ.2.2.2.2.1
  refine e_aload_n (i := 0) 123 dX6_readLooks_122 rfl rfl rfl ?_
  refine e_geti (j := 4) 126 fl_6_36 dX6_readLooks_123 at_882 (by decide) rfl rfl (fun r123 => ?_)
  refine e_if_ne 129 133 dX6_readLooks_126 (by omega) (by decide) rfl (fun b126 => ?_) (fun b126 => ?_)
  · skip
    refine e_iconst 134 dX6_readLooks_133 rfl ?_
    refine e_zret dX6_readLooks_134 (by decide) ?_
    have h := h Z hZ hK
    rw [if_neg (by omega)] at h
    exact h
  · skip
    refine e_iconst 130 dX6_readLooks_129 rfl ?_
    refine e_goto 134 dX6_readLooks_130 (by decide) ?_
    refine e_zret dX6_readLooks_134 (by decide) ?_
    have h := h Z hZ hK
    rw [if_pos (by omega)] at h
    exact h

theorem qk5_ok {t : Int → Int} {n : Int} {s : PS} (hw : s.2.2.2.2.1 = 0) (hk : s.2.2.1 = 9) : qk5 t n (s.2.2.2.2.2.2.2.2.2 65) s = pK5 t n s := by
  have e1 : qk1 t n s = pK1 t n s := by
    have e0 : pMust t n 9 s = pNext t n s := if_pos ⟨hw, hk⟩
    rw [qk1, pK1, e0]
  unfold qk5 qk4 qk3 qk2 pK5 pK4 pK3 pK2
  rw [e1]
theorem qk5_bad {t : Int → Int} {n m : Int} {s : PS} (hw : s.2.2.2.2.1 = 0) (hk : s.2.2.1 ≠ 9) : qk5 t n m s = qk5 t n m (pFail 2 s) := by
  have hz : (pFail 2 s).2.2.2.2.1 ≠ 0 := by
    rw [pFail, if_neg (by omega)]
    show (if s.2.2.1 = 26 then (1 : Int) else 2) ≠ 0
    split <;> omega
  have e1 : qk1 t n s = qk1 t n (pFail 2 s) := by
    have e2 : pMust t n 9 s = pFail 2 s := by
      rw [pMust, if_neg (by omega)]
    unfold qk1
    rw [e2, must_w hz, must_w hz, must_w hz]
  unfold qk5 qk4 qk3 qk2
  rw [e1]
section
variable {M Z W V : jM} {n b : Int} {s z : PS}
theorem look_c (hM : CM M n) (hI : PI n s) (hw : s.2.2.2.2.1 = 0) (hk : s.2.2.1 ≠ 25) : PI n (pLook (M 931) n s) ∧ s.1 ≤ (pLook (M 931) n s).1 ∧ ((pLook (M 931) n s).2.2.2.2.1 = 0 → s.1 + 1 ≤ (pLook (M 931) n s).1) ∧ (pLook (M 931) n s).2.2.2.2.2.2.1 = s.2.2.2.2.2.2.1 := by
  obtain ⟨Y, hT, e⟩ := hM.rt
  have g := pg_look hT hI hw hk
  rw [e] at g
  exact ⟨g.1, g.2.1, g.2.2.1, g.2.2.2.1⟩
theorem ck_k6 (hM : CM M n) (hI : PI n s) (hw : s.2.2.2.2.1 = 0) (h8 : s.2.2.2.2.2.2.2.2.2 65 < 8) (hV : CK V (pK5 (M 931) n s) s.2.2.2.2.2.2.2.1) (hC : CC V W) (hWz : (pK5 (M 931) n s).2.2.2.2.1 = 0) : CK W (pK6 (M 931) n s) (pK6 (M 931) n s).2.2.2.2.2.2.2.1 := by
  obtain ⟨Y, hT, e⟩ := hM.rt
  have m8 := hI.2.2.2.2.2.2.2.1
  have k1 := (pk_k1 hT hI hw).1
  have k3 := pq_k3 hT hI hw
  have k5 := pk_k5 hT hI hw
  have e65 := k5_65 hT hI hw
  have i2 := pi_k2 hT hI hw
  rw [e] at k1 k3 k5 e65 i2
  have qs := k3.1.2.2.2.2.1
  have q2 := i2.2.2.2.2.1
  have f : ∀ i : Int, i ≠ 65 → (pK6 (M 931) n s).2.2.2.2.2.2.2.2.2 i = (pK5 (M 931) n s).2.2.2.2.2.2.2.2.2 i := fun i hi => k6_a hi
  have f65 : (pK6 (M 931) n s).2.2.2.2.2.2.2.2.2 65 = s.2.2.2.2.2.2.2.2.2 65 + 1 := by rw [k6_v, e65]
  have s5 : (pK6 (M 931) n s).2.2.2.2.2.2.2.1 = (pK5 (M 931) n s).2.2.2.2.2.2.2.1 := rfl
  have s4 : (pK5 (M 931) n s).2.2.2.2.2.2.2.1 = (pK3 (M 931) n s).2.2.2.2.2.2.2.1 := congrArg (fun z => z.2.1) k5.2.2.2
  have s1 : (pK1 (M 931) n s).2.2.2.2.2.2.2.1 = s.2.2.2.2.2.2.2.1 := congrArg (fun z => z.2.1) k1.2.2.2
  have a66 : (pK5 (M 931) n s).2.2.2.2.2.2.2.2.2 (66 + s.2.2.2.2.2.2.2.2.2 65) = s.2.2.2.2.2.2.2.1 := by
    rw [k5.pa, k4_a (by omega), k3.2.2.2.2.2.1 _ (by omega), k2_v, s1]
  have a74 : (pK5 (M 931) n s).2.2.2.2.2.2.2.2.2 (74 + s.2.2.2.2.2.2.2.2.2 65) = (pK5 (M 931) n s).2.2.2.2.2.2.2.1 := by
    rw [k5.pa, k4_v, s4]
  obtain ⟨v1, v2, v3⟩ := hV
  obtain ⟨q0, q1, q2, q3, q4, q5⟩ := v3 hWz
  rw [e65] at q0 q3 q4
  obtain ⟨c1, c2⟩ := hC.2.2.2 (by omega)
  have c3 := hC.1 892 (by omega) (by omega)
  have c4 := hC.1 893 (by omega) (by omega)
  refine ⟨hC.2.2.1, by rw [hC.2.1.1]; exact v2, fun _ => ⟨?_, ?_, ?_, ?_, fun j a d => ?_, fun i a d => ?_⟩⟩
  · rw [c1, f65, q0]
  · rw [hC.2.1.1, q1, s5]
  · rw [c2, u2 (by omega)]
    exact q2
  · rw [c2, f65, q0, u1, s5, q1]
  · rw [f65] at d
    rw [c2, q0, f _ (by omega), f _ (by omega)]
    by_cases c : j = s.2.2.2.2.2.2.2.2.2 65
    · rw [c, u2 (by omega), u1, a66, a74, q3, q1]
      exact ⟨rfl, rfl⟩
    · rw [u2 (by omega), u2 (by omega)]
      exact q4 j a (by omega)
  · rw [s5] at d
    rw [c3, c4, f _ (by omega), f _ (by omega)]
    exact q5 i a d
end
theorem ck_looks {X : jX} {M : jM} {n : Int} {Q : Int → jM → Prop} (hM : CM M n) : ∀ (f : Nat) (s : PS) (i : Int) (Z : jM), CTk M Z n s → PI n s → s.2.2.2.2.2.2.1 = 0 → CK Z s s.2.2.2.2.2.2.2.1 → (s.2.2.2.2.1 = 0 → n - s.1 + 1 ≤ f ∧ i ≤ s.1) → (0 ≤ i ∧ i ≤ 401) → (∀ W : jM, CTk M W n (pTop (M 931) n 1 f s) → CK W (pTop (M 931) n 1 f s) (pTop (M 931) n 1 f s).2.2.2.2.2.2.2.1 → Q (if (pTop (M 931) n 1 f s).2.2.2.2.1 = 0 then 1 else 0) W) → jE X yX6_readLooks cX6_readLooks 3 (some .boolean) 43 Q Z 14 [(0, jR 882), (1, jI n), (2, jI i)] [] := by
  intro f
  induction f with
  | zero =>
    intro s i Z hZ hI hdp hK hf hi h
    have e3 := hZ.2.2.2.1.1
    have e5 := hZ.2.2.2.1.2.1
    have eT := hZ.2.2.2.1.2.2
    have hi1 := hI.1
    have hi2 := hI.2.1
    have hn0 := hM.1
    have ew := hZ.2.2.2.2.1
    rw [pTop] at h
    refine e_iload_n (i := 2) 15 dX6_readLooks_14 rfl rfl rfl ?_
    refine e_iload_n (i := 1) 16 dX6_readLooks_15 rfl rfl rfl ?_
    refine e_icmp_ge 19 122 dX6_readLooks_16 (by omega) (by omega) (by decide) rfl (fun b16 => ?_) (fun b16 => ?_)
    · skip
      exact ck_end hZ hK h
    · skip
      refine e_aload_n (i := 0) 20 dX6_readLooks_19 rfl rfl rfl ?_
      refine e_geti (j := 4) 23 fl_6_36 dX6_readLooks_20 at_882 (by decide) rfl rfl (fun r20 => ?_)
      refine e_if_ne 26 122 dX6_readLooks_23 (by omega) (by decide) rfl (fun b23 => ?_) (fun b23 => ?_)
      · skip
        exact ck_end hZ hK h
      · omega
  | succ f ih =>
    intro s i Z hZ hI hdp hK hf hi h
    have e3 := hZ.2.2.2.1.1
    have e5 := hZ.2.2.2.1.2.1
    have eT := hZ.2.2.2.1.2.2
    have hi1 := hI.1
    have hi2 := hI.2.1
    have hn0 := hM.1
    have ew := hZ.2.2.2.2.1
    refine e_iload_n (i := 2) 15 dX6_readLooks_14 rfl rfl rfl ?_
    refine e_iload_n (i := 1) 16 dX6_readLooks_15 rfl rfl rfl ?_
    refine e_icmp_ge 19 122 dX6_readLooks_16 (by omega) (by omega) (by decide) rfl (fun b16 => ?_) (fun b16 => ?_)
    · first
       | (exfalso; omega)
       | (skip
          rw [pTop, if_neg (by omega)] at h
          exact ck_end hZ hK h)
    · first
       | (exfalso; omega)
       | (skip
          refine e_aload_n (i := 0) 20 dX6_readLooks_19 rfl rfl rfl ?_
          refine e_geti (j := 4) 23 fl_6_36 dX6_readLooks_20 at_882 (by decide) rfl rfl (fun r20 => ?_)
          refine e_if_ne 26 122 dX6_readLooks_23 (by omega) (by decide) rfl (fun b23 => ?_) (fun b23 => ?_)
          · first
             | (exfalso; omega)
             | (skip
                rw [pTop, if_neg (by omega)] at h
                exact ck_end hZ hK h)
          · first
             | (exfalso; omega)
             | (skip
                refine e_aload_n (i := 0) 27 dX6_readLooks_26 rfl rfl rfl ?_
                refine e_getr (j := 0) 30 fl_6_12 dX6_readLooks_27 at_882 rfl rfl tp_882_0 rfl ?_
                refine e_geti (j := 4) 33 fl_6_50 dX6_readLooks_30 at_883 (by decide) rfl rfl (fun r30 => ?_)
                refine e_if_eq 36 122 dX6_readLooks_33 (by omega) (by decide) rfl (fun b33 => ?_) (fun b33 => ?_)
                · first
                   | (exfalso; omega)
                   | (skip
                      rw [pTop, if_neg (by omega)] at h
                      exact ck_end hZ hK h)
                · first
                   | (exfalso; omega)
                   | (skip
                      have hw : s.2.2.2.2.1 = 0 := by omega
                      have hk0 := (hK.2.2 hw).1
                      refine e_aload_n (i := 0) 37 dX6_readLooks_36 rfl rfl rfl ?_
                      refine e_getr (j := 2) 40 fl_6_28 dX6_readLooks_37 at_882 rfl rfl tp_882_2 rfl ?_
                      refine e_geti (j := 0) 43 fl_6_129 dX6_readLooks_40 at_890 (by decide) rfl rfl (fun r40 => ?_)
                      refine e_bipush 45 dX6_readLooks_43 (by decide) rfl ?_
                      refine e_icmp_lt 48 65 dX6_readLooks_45 (by omega) (by decide) (by decide) rfl (fun b45 => ?_) (fun b45 => ?_)
                      · first
                         | (exfalso; omega)
                         | (skip
                            have lc := look_c hM hI hw (by omega)
                            have hst := hI.2.2.2.2.2.2.2.1
                            refine ck_mid (m := s.2.2.2.2.2.2.2.2.2 65) hM hZ hI hdp hK (by omega) (fun e => ?_) hi (fun V W hWk hVk hC => ?_)
                            · by_cases c9 : s.2.2.1 = 9
                              · exact ⟨by omega, rfl⟩
                              · exfalso
                                have e2 : pMust (M 931) n 9 s = pFail 2 s := by
                                  rw [pMust, if_neg (by omega)]
                                have z2 := (pk_fail (f := 2) (by omega) hI).2
                                unfold qk1 at e
                                rw [e2, must_w z2] at e
                                exact z2 e
                            have z2 := (pk_fail (f := 2) (by omega) hI).2
                            refine ih (pLook (M 931) n s) (i + 1) W ?_ lc.1 (by omega) ?_ (fun e => by have := lc.2.2.1 e; have := hf hw; omega) (by have := hf hw; omega) ?_
                            · by_cases c9 : s.2.2.1 = 9
                              · rw [qk5_ok hw c9] at hWk
                                rw [pLook, if_neg (by omega), if_neg (by omega)]
                                exact hWk
                              · rw [qk5_bad hw c9] at hWk
                                rw [pLook, if_pos c9]
                                exact hWk.tok (qk5_w z2)
                            · by_cases c9 : s.2.2.1 = 9
                              · rw [qk5_ok hw c9] at hVk
                                have el : pLook (M 931) n s = pK6 (M 931) n s := by
                                  rw [pLook, if_neg (by omega), if_neg (by omega)]
                                rw [el]
                                by_cases cw : (pK5 (M 931) n s).2.2.2.2.1 = 0
                                · exact ck_k6 hM hI hw (by omega) hVk hC cw
                                · exact hVk.weak (z := pK6 (M 931) n s) hC cw
                              · have el : pLook (M 931) n s = pFail 2 s := by
                                  rw [pLook, if_pos c9]
                                rw [el]
                                exact hVk.weak hC z2
                            · rw [pTop, if_pos (by omega), if_neg (by decide)] at h
                              exact h)
                      · first
                         | (exfalso; omega)
                         | (skip
                            refine e_aload_n (i := 0) 49 dX6_readLooks_48 rfl rfl rfl ?_
                            refine e_getr (j := 0) 52 fl_6_12 dX6_readLooks_49 at_882 rfl rfl tp_882_0 rfl ?_
                            refine e_ldcS 54 (i := 9) (by decide) rfl rfl dX6_readLooks_52 rfl ?_
                            refine e_callV 57 mt_yX9_spells mv_yX9_spells wd_555 (by decide) dX6_readLooks_54 at_883 jc_9 rfl rfl rfl (Nat.le_of_ble_eq_true rfl) (jroom (by decide)) rfl (c_spells_9 hM hZ hI (fun w54 => ?_) (fun w54 => ?_))
                            · dsimp only [jpush]
                              first
                               | (exfalso; omega)
                               | (skip
                                  refine e_if_eq 60 65 dX6_readLooks_57 (by decide) (by decide) rfl (fun h => absurd h (by decide)) (fun _ => ?_)
                                  refine e_aload_n (i := 0) 61 dX6_readLooks_60 rfl rfl rfl ?_
                                  refine e_iconst 62 dX6_readLooks_61 rfl ?_
                                  refine e_callV 65 mt_yX6_refuse mv_yX6_refuse wd_611 (by decide) dX6_readLooks_62 at_882 jc_6 rfl rfl rfl (Nat.le_of_ble_eq_true rfl) (jroom (by decide)) rfl (c_rfs hM hZ hI (by omega) (by omega) (fun W62 hW62 hO62 => ?_))
                                  dsimp only [jpush]
                                  (try simp (disch := omega) only [jset_k, jset_j, jset_same, true_and, and_true] at W62 hW62 hO62)
                                  have lc := look_c hM hI hw (by omega)
                                  have hst := hI.2.2.2.2.2.2.2.1
                                  have k4 := pk_fail (f := 4) (by omega) hI
                                  have hdp4 : (pFail 4 s).2.2.2.2.2.2.1 = 0 := by
                                    rw [show (pFail 4 s).2.2.2.2.2.2.1 = s.2.2.2.2.2.2.1 from congrArg (fun z => z.1) k4.1.2.2.2, hdp]
                                  refine ck_mid (m := s.2.2.2.2.2.2.2.2.2 65) (t0 := pFail 4 s) (b := s.2.2.2.2.2.2.2.1) hM hW62 k4.1.1 hdp4 (hK.pk hO62 k4.1) (by omega) (fun e => ?_) hi (fun V W hWk hVk hC => ?_)
                                  · exfalso
                                    unfold qk1 at e
                                    rw [must_w k4.2, must_w k4.2] at e
                                    exact k4.2 e
                                  have el : pLook (M 931) n s = pFail 4 s := by
                                    rw [pLook, if_neg (by omega), if_pos (by omega)]
                                  refine ih (pLook (M 931) n s) (i + 1) W ?_ lc.1 (by omega) ?_ (fun e => by have := lc.2.2.1 e; have := hf hw; omega) (by have := hf hw; omega) ?_
                                  · rw [el]
                                    exact hWk.tok (qk5_w k4.2)
                                  · rw [el]
                                    exact hVk.weak hC k4.2
                                  · rw [pTop, if_pos (by omega), if_neg (by decide)] at h
                                    exact h)
                            · dsimp only [jpush]
                              first
                               | (exfalso; omega)
                               | (skip
                                  refine e_if_eq 60 65 dX6_readLooks_57 (by decide) (by decide) rfl (fun _ => ?_) (fun h => absurd h (by decide))
                                  have lc := look_c hM hI hw (by omega)
                                  have hst := hI.2.2.2.2.2.2.2.1
                                  refine ck_mid (m := s.2.2.2.2.2.2.2.2.2 65) hM hZ hI hdp hK (by omega) (fun e => ?_) hi (fun V W hWk hVk hC => ?_)
                                  · exfalso
                                    have e2 : pMust (M 931) n 9 s = pFail 2 s := by
                                      rw [pMust, if_neg (by omega)]
                                    have z2 := (pk_fail (f := 2) (by omega) hI).2
                                    unfold qk1 at e
                                    rw [e2, must_w z2] at e
                                    exact z2 e
                                  have z2 := (pk_fail (f := 2) (by omega) hI).2
                                  have el : pLook (M 931) n s = pFail 2 s := by
                                    rw [pLook, if_pos (by omega)]
                                  refine ih (pLook (M 931) n s) (i + 1) W ?_ lc.1 (by omega) ?_ (fun e => by have := lc.2.2.1 e; have := hf hw; omega) (by have := hf hw; omega) ?_
                                  · rw [qk5_bad hw (by omega)] at hWk
                                    rw [el]
                                    exact hWk.tok (qk5_w z2)
                                  · rw [el]
                                    exact hVk.weak hC z2
                                  · rw [pTop, if_pos (by omega), if_neg (by decide)] at h
                                    exact h)))))

theorem c_readLooks {M : jM} {n : Int} {Q : Int → jM → Prop} (hM : CM M n) (hv : -2147483648 ≤ M 928 10 ∧ M 928 10 ≤ 2147483647) (hf : n ≤ M 883 1 ∧ M 883 1 ≤ 400) (h91 : M 891 0 = 0) (h : ∀ W : jM, CTk M W n (txZ M n 1) → CK W (txZ M n 1) (txZ M n 1).2.2.2.2.2.2.2.1 → Q (if (txZ M n 1).2.2.2.2.1 = 0 then 1 else 0) W) : jCt yX6_readLooks cX6_readLooks 3 (some .boolean) 43 [jR 882, jI n] M Q := by
  refine jCt_of mt_yX6_readLooks (Nat.le_of_ble_eq_true rfl) (fun X => ?_)
  refine e_aload_n (i := 0) 1 dX6_readLooks_0 rfl rfl rfl ?_
  refine e_iload_n (i := 1) 2 dX6_readLooks_1 rfl rfl rfl ?_
  refine e_callV 5 mt_yX6_begin mv_yX6_begin wd_538 (by decide) dX6_readLooks_2 at_882 jc_6 rfl rfl rfl (Nat.le_of_ble_eq_true rfl) (jroom (by decide)) rfl (c_rbegin hM hv hf h91 (fun W2 hW2 h32 hO2 => ?_))
  dsimp only [jpush]
  (try simp (disch := omega) only [jset_k, jset_j, jset_same, true_and, and_true] at W2 hW2 h32 hO2)
  refine e_aload_n (i := 0) 6 dX6_readLooks_5 rfl rfl rfl ?_
  refine e_getr (j := 2) 9 fl_6_28 dX6_readLooks_6 at_882 rfl rfl tp_882_2 rfl ?_
  refine e_callV 12 mt_yX2_clear mv_yX2_clear wd_656 (by decide) dX6_readLooks_9 at_890 jc_2 rfl rfl rfl (Nat.le_of_ble_eq_true rfl) (jroom (by decide)) rfl (c_lclear (fun W9 hO9 h09 h19 => ?_))
  dsimp only [jpush]
  (try simp (disch := omega) only [jset_k, jset_j, jset_same, true_and, and_true] at W9 hO9 h09 h19)
  refine e_iconst 13 dX6_readLooks_12 rfl ?_
  refine e_istore_n (i := 2) (lsn := [(2, _), (0, _), (1, _)]) 14 dX6_readLooks_13 rfl (by decide) rfl rfl ?_
  refine e_ls (ls2 := [(0, _), (1, _), (2, _)]) rfl ?_
  have hI1 := (pc_next hM (pi_tx1 hM hv) rfl).1.1
  have i1 := hI1.1
  have hC : CTk M W9 n (pNext (M 931) n (tx1 M)) := ⟨fun k hk => (hO9 k (by omega)).trans (hW2.1 k hk), ⟨by rw [hO9 883 (by omega)]; exact hW2.2.1.1, by rw [hO9 891 (by omega)]; exact hW2.2.1.2⟩, by rw [hO9 883 (by omega)]; exact hW2.2.2.1, by unfold TR; rw [hO9 883 (by omega)]; exact hW2.2.2.2.1, by rw [hO9 882 (by omega)]; exact hW2.2.2.2.2.1, by rw [hO9 882 (by omega)]; exact hW2.2.2.2.2.2⟩
  have e91 : W9 891 0 = 0 := by rw [hO9 891 (by omega), hO2 891 (by omega), h91]
  refine ck_looks hM 500 (pNext (M 931) n (tx1 M)) 0 _ hC hI1 rfl ⟨by omega, by omega, fun _ => ⟨h09, h19, e91, e91, fun j a d => ?_, fun j a d => ?_⟩⟩ (fun _ => by omega) (by omega) h
  · have d : j < 0 := d
    omega
  · have d : j < 0 := d
    omega

