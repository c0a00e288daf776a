/-! PAIRS: calls that change something -/
theorem p_weeks {M : jM} (hI : Inv M) {n : Int} (hn : -2147483648 ≤ n ∧ n ≤ 2147483647) : jCt yX11_weeks cX11_weeks 2 (some .int) 2 [jR 0, jI n] M (fun z M1 => jCt yX12_weeks cX12_weeks 2 (some .int) 2 [jR 928, jI n] M1 (fun z2 M2 => z = z2 ∧ Inv M2)) := by
  have hC := hI.cr
  have hn := hC.cnt
  have hg := hC.rng
  refine jCt_of mt_yX11_weeks (Nat.le_of_ble_eq_true rfl) (fun X => ?_)
  refine e_iload_n (i := 1) 1 dX11_weeks_0 rfl rfl rfl ?_
  refine e_iconst 2 dX11_weeks_1 rfl ?_
  refine e_bipush 4 dX11_weeks_2 (by decide) rfl ?_
  refine e_callS 7 mt_yX11_within ms_yX11_within wd_531 (by decide) dX11_weeks_4 rfl rfl (Nat.le_of_ble_eq_true rfl) (jroom (by decide)) rfl (c_within (by omega) (by omega) (by omega) (fun w4 => ?_) (fun w4 => ?_))
  · dsimp only [jpush]
    refine e_if_ne 10 13 dX11_weeks_7 (by decide) (by decide) rfl (fun _ => ?_) (fun h => absurd h (by decide))
    refine e_aload_n (i := 0) 14 dX11_weeks_13 rfl rfl rfl ?_
    refine e_getr (j := 0) 17 fl_11_10 dX11_weeks_14 at_0 rfl rfl tp_0_0 rfl ?_
    refine e_geti (j := 4) 20 fl_11_174 dX11_weeks_17 at_1 (by decide) rfl rfl (fun r17 => ?_)
    refine e_iload_n (i := 1) 21 dX11_weeks_20 rfl rfl rfl ?_
    refine e_iadd 22 dX11_weeks_21 rfl ?_
    refine e_sipush 25 dX11_weeks_22 (by decide) rfl ?_
    refine e_icmp_le 28 31 dX11_weeks_25 (by omega) (by decide) (by decide) rfl (fun b25 => ?_) (fun b25 => ?_)
    · skip
      refine e_aload_n (i := 0) 32 dX11_weeks_31 rfl rfl rfl ?_
      refine e_getr (j := 0) 35 fl_11_10 dX11_weeks_32 at_0 rfl rfl tp_0_0 rfl ?_
      refine e_dup 36 dX11_weeks_35 rfl rfl ?_
      refine e_geti (j := 4) 39 fl_11_174 dX11_weeks_36 at_1 (by decide) rfl rfl (fun r36 => ?_)
      refine e_iload_n (i := 1) 40 dX11_weeks_39 rfl rfl rfl ?_
      refine e_iadd 41 dX11_weeks_40 rfl ?_
      refine e_puti (j := 4) 44 fl_11_174 dX11_weeks_41 at_1 rfl rfl rfl (by omega) rfl ?_
      refine e_aload_n (i := 0) 45 dX11_weeks_44 rfl rfl rfl ?_
      refine e_getr (j := 0) 48 fl_11_10 dX11_weeks_45 at_0 rfl rfl tp_0_0 rfl ?_
      refine e_geti (j := 4) 51 fl_11_174 dX11_weeks_48 at_1 (by decide) rfl rfl (fun r48 => ?_)
      simp (disch := omega) only [jset_k, jset_j, jset_same, true_and, and_true] at r48 ⊢
      refine e_iret dX11_weeks_51 ?_
      refine jCt_of mt_yX12_weeks (Nat.le_of_ble_eq_true rfl) (fun X2 => ?_)
      refine e_aload_n (i := 0) 1 dX12_weeks_0 rfl rfl rfl ?_
      refine e_iconst 2 dX12_weeks_1 rfl ?_
      refine e_put0 (j := 0) 5 fl_12_1 dX12_weeks_2 at_928 rfl rfl rfl (by decide) (by simp (disch := omega) only [jset_k, jset_j, jset_same, true_and, and_true]; exact hI.1) rfl ?_
      refine e_iload_n (i := 1) 6 dX12_weeks_5 rfl rfl rfl ?_
      refine e_i2l 7 dX12_weeks_6 (by omega) rfl ?_
      refine e_lconst1 8 dX12_weeks_7 rfl ?_
      refine e_ldc2 (z := (52)) 11 (ix := 219) wd_1515 (by decide) dX12_weeks_8 rfl ?_
      refine e_callS 14 mt_yX12_within ms_yX12_within wd_1390 (by decide) dX12_weeks_11 rfl rfl (Nat.le_of_ble_eq_true rfl) (jroom (by decide)) rfl (m_within (by omega) (by omega) (by omega) (fun w11 => ?_) (fun w11 => ?_))
      · dsimp only [jpush]
        (try simp (disch := omega) only [jset_k, jset_j, jset_same, true_and, and_true] at w11)
        first
         | (exfalso; omega)
         | (skip
            refine e_if_ne 17 20 dX12_weeks_14 (by decide) (by decide) rfl (fun _ => ?_) (fun h => absurd h (by decide))
            refine e_aload_n (i := 0) 21 dX12_weeks_20 rfl rfl rfl ?_
            refine e_getr (j := 1) 24 fl_12_13 dX12_weeks_21 at_928 rfl rfl tp_928_1 rfl ?_
            refine e_sipush 27 dX12_weeks_24 (by decide) rfl ?_
            refine e_iald 28 dX12_weeks_27 ar_929 (by decide) (by decide) rfl (fun r27 => ?_)
            simp (disch := omega) only [jset_k, jset_j, jset_same, true_and, and_true] at r27 ⊢
            refine e_iload_n (i := 1) 29 dX12_weeks_28 rfl rfl rfl ?_
            refine e_iadd 30 dX12_weeks_29 rfl ?_
            refine e_sipush 33 dX12_weeks_30 (by decide) rfl ?_
            refine e_icmp_le 36 39 dX12_weeks_33 (by omega) (by decide) (by decide) rfl (fun b33 => ?_) (fun b33 => ?_)
            · first
               | (exfalso; omega)
               | (skip
                  refine e_aload_n (i := 0) 40 dX12_weeks_39 rfl rfl rfl ?_
                  refine e_getr (j := 1) 43 fl_12_13 dX12_weeks_40 at_928 rfl rfl tp_928_1 rfl ?_
                  refine e_sipush 46 dX12_weeks_43 (by decide) rfl ?_
                  refine e_dup2 47 dX12_weeks_46 rfl rfl rfl ?_
                  refine e_iald 48 dX12_weeks_47 ar_929 (by decide) (by decide) rfl (fun r47 => ?_)
                  simp (disch := omega) only [jset_k, jset_j, jset_same, true_and, and_true] at r47 ⊢
                  refine e_iload_n (i := 1) 49 dX12_weeks_48 rfl rfl rfl ?_
                  refine e_iadd 50 dX12_weeks_49 rfl ?_
                  refine e_iast 51 dX12_weeks_50 ar_929 (by decide) (by decide) (by omega) rfl ?_
                  refine e_aload_n (i := 0) 52 dX12_weeks_51 rfl rfl rfl ?_
                  refine e_getr (j := 1) 55 fl_12_13 dX12_weeks_52 at_928 rfl rfl tp_928_1 rfl ?_
                  refine e_sipush 58 dX12_weeks_55 (by decide) rfl ?_
                  refine e_iald 59 dX12_weeks_58 ar_929 (by decide) (by decide) rfl (fun r58 => ?_)
                  simp (disch := omega) only [jset_k, jset_j, jset_same, true_and, and_true] at r58 ⊢
                  refine e_iret dX12_weeks_59 ?_
                  first
                    | (exact ⟨by omega, hI⟩)
                    | (exfalso; omega)
                    | (refine ⟨by omega, ?_⟩
                       refine hI.live ?_ ?_ ?_
                       · repeat (first | exact Live.rf | refine Live.c ?_ (by omega) | refine Live.r ?_ (by omega) | refine Live.s ?_ (by omega))
                       · refine ⟨?_, ?_, ?_, ?_, ?_, ?_, ?_, ?_, ?_, ?_, ?_⟩
                         · have h := hI.2.1.1
                           unfold RCnt at h ⊢
                           simp (disch := omega) only [jset_k, jset_j, jset_same, true_and, and_true]
                           omega
                         · exact hI.2.1.2.1.fr (fun i a b => by simp (disch := omega) only [jset_k, jset_j, jset_same, true_and, and_true])
                         · exact hI.2.1.2.2.1.fr (fun i a b => by simp (disch := omega) only [jset_k, jset_j, jset_same, true_and, and_true])
                         · exact hI.2.1.2.2.2.1.fr (by omega) (fun i a b => by simp (disch := omega) only [jset_k, jset_j, jset_same, true_and, and_true])
                         · exact hI.2.1.2.2.2.2.1.fr (by omega) (fun i a b => by simp (disch := omega) only [jset_k, jset_j, jset_same, true_and, and_true]) (fun i a b => by simp (disch := omega) only [jset_k, jset_j, jset_same, true_and, and_true])
                         · intro p h0 h1
                           simp (disch := omega) only [jset_k, jset_j, jset_same, true_and, and_true] at h1
                           have h := hI.2.1.2.2.2.2.2.1 p h0 h1
                           simp (disch := omega) only [jset_k, jset_j, jset_same, true_and, and_true]
                           omega
                         · exact hI.2.1.2.2.2.2.2.2.1.fr (by omega) (by simp (disch := omega) only [jset_k, jset_j, jset_same, true_and, and_true]) (fun i a b => by simp (disch := omega) only [jset_k, jset_j, jset_same, true_and, and_true])
                         · exact hI.2.1.2.2.2.2.2.2.2.1.fr (by omega) (fun i a b => by simp (disch := omega) only [jset_k, jset_j, jset_same, true_and, and_true]) (fun i a b => by simp (disch := omega) only [jset_k, jset_j, jset_same, true_and, and_true]) (by simp (disch := omega) only [jset_k, jset_j, jset_same, true_and, and_true]; omega)
                         · exact hI.2.1.2.2.2.2.2.2.2.2.1.fr (by omega) (fun i a b => by simp (disch := omega) only [jset_k, jset_j, jset_same, true_and, and_true])
                         · exact hI.2.1.2.2.2.2.2.2.2.2.2.1.fr (fun i a b => by simp (disch := omega) only [jset_k, jset_j, jset_same, true_and, and_true])
                         · exact hI.2.1.2.2.2.2.2.2.2.2.2.2.fr (fun i a b => by simp (disch := omega) only [jset_k, jset_j, jset_same, true_and, and_true])
                       · refine ⟨?_, ?_, ?_, ?_, ?_, ?_, ?_, ?_, ?_, ?_, ?_, ?_⟩
                         · have h := hC.cnt
                           unfold CCnt cv
                           simp (disch := omega) only [jset_k, jset_j, jset_same, true_and, and_true, Int.reduceAdd]
                           first | omega | exact h
                         · exact hI.2.2.1.2.1.fr hI.2.1.2.1 (by omega) (fun k j a b => by show _ = M (1 + k) j; unfold cv; simp (disch := omega) only [jset_k, jset_j, jset_same, true_and, and_true]) (fun i a b => by simp (disch := omega) only [jset_k, jset_j, jset_same, true_and, and_true])
                         · exact hI.2.2.1.2.2.1.fr hI.2.1.2.2.1 (by omega) (fun k j a b => by show _ = M (1 + k) j; unfold cv; simp (disch := omega) only [jset_k, jset_j, jset_same, true_and, and_true]) (fun i a b => by simp (disch := omega) only [jset_k, jset_j, jset_same, true_and, and_true])
                         · exact hI.2.2.1.2.2.2.1.fr (by omega) (fun k j a b => by show _ = M (1 + k) j; unfold cv; simp (disch := omega) only [jset_k, jset_j, jset_same, true_and, and_true]) (fun i a b => by simp (disch := omega) only [jset_k, jset_j, jset_same, true_and, and_true])
                         · exact hI.2.2.1.2.2.2.2.1.fr (by omega) (fun k j a b => by show _ = M (1 + k) j; unfold cv; simp (disch := omega) only [jset_k, jset_j, jset_same, true_and, and_true]) (fun i a b => by simp (disch := omega) only [jset_k, jset_j, jset_same, true_and, and_true]) (fun i a b => by simp (disch := omega) only [jset_k, jset_j, jset_same, true_and, and_true])
                         · exact hI.2.2.1.2.2.2.2.2.1.fr (by omega) (fun k j a b => by show _ = M (1 + k) j; unfold cv; simp (disch := omega) only [jset_k, jset_j, jset_same, true_and, and_true]) (fun i a b => by simp (disch := omega) only [jset_k, jset_j, jset_same, true_and, and_true]) (fun i a b => by simp (disch := omega) only [jset_k, jset_j, jset_same, true_and, and_true])
                         · exact hI.2.2.1.2.2.2.2.2.2.1.fr (by omega) (fun k j a b => by show _ = M (1 + k) j; unfold cv; simp (disch := omega) only [jset_k, jset_j, jset_same, true_and, and_true]) (fun i a b => by simp (disch := omega) only [jset_k, jset_j, jset_same, true_and, and_true]) (fun i a b => by simp (disch := omega) only [jset_k, jset_j, jset_same, true_and, and_true])
                         · exact hI.2.2.1.2.2.2.2.2.2.2.1.fr (by omega) (fun k j a b => by show _ = M (1 + k) j; unfold cv; simp (disch := omega) only [jset_k, jset_j, jset_same, true_and, and_true]) (fun i a b => by simp (disch := omega) only [jset_k, jset_j, jset_same, true_and, and_true])
                         · exact hI.2.2.1.2.2.2.2.2.2.2.2.1.fr (fun k j a b => by show _ = M (1 + k) j; unfold cv; simp (disch := omega) only [jset_k, jset_j, jset_same, true_and, and_true]) (fun i a b => by simp (disch := omega) only [jset_k, jset_j, jset_same, true_and, and_true])
                         · exact hI.2.2.1.2.2.2.2.2.2.2.2.2.1.fr (fun k j a b => by show _ = M (1 + k) j; unfold cv; simp (disch := omega) only [jset_k, jset_j, jset_same, true_and, and_true]) (fun i a b => by simp (disch := omega) only [jset_k, jset_j, jset_same, true_and, and_true])
                         · exact hI.2.2.1.2.2.2.2.2.2.2.2.2.2.1.fr (by omega) (fun k j a b => by show _ = M (1 + k) j; unfold cv; simp (disch := omega) only [jset_k, jset_j, jset_same, true_and, and_true]) (fun i a b => by simp (disch := omega) only [jset_k, jset_j, jset_same, true_and, and_true])
                         · exact hI.2.2.1.2.2.2.2.2.2.2.2.2.2.2.fr hI.2.1.2.2.2.2.2.2.2.2.2.2 (fun k j a b => by show _ = M (1 + k) j; unfold cv; simp (disch := omega) only [jset_k, jset_j, jset_same, true_and, and_true]) (fun i a b => by simp (disch := omega) only [jset_k, jset_j, jset_same, true_and, and_true])))
            · first
               | (exfalso; omega)
               | (skip
                  refine e_bipush 38 dX12_weeks_36 (by decide) rfl ?_
                  refine e_iret dX12_weeks_38 ?_
                  first
                    | (exact ⟨by omega, hI⟩)
                    | (exfalso; omega)
                    | (refine ⟨by omega, ?_⟩
                       refine hI.live ?_ ?_ ?_
                       · repeat (first | exact Live.rf | refine Live.c ?_ (by omega) | refine Live.r ?_ (by omega) | refine Live.s ?_ (by omega))
                       · refine ⟨?_, ?_, ?_, ?_, ?_, ?_, ?_, ?_, ?_, ?_, ?_⟩
                         · have h := hI.2.1.1
                           unfold RCnt at h ⊢
                           simp (disch := omega) only [jset_k, jset_j, jset_same, true_and, and_true]
                           omega
                         · exact hI.2.1.2.1.fr (fun i a b => by simp (disch := omega) only [jset_k, jset_j, jset_same, true_and, and_true])
                         · exact hI.2.1.2.2.1.fr (fun i a b => by simp (disch := omega) only [jset_k, jset_j, jset_same, true_and, and_true])
                         · exact hI.2.1.2.2.2.1.fr (by omega) (fun i a b => by simp (disch := omega) only [jset_k, jset_j, jset_same, true_and, and_true])
                         · exact hI.2.1.2.2.2.2.1.fr (by omega) (fun i a b => by simp (disch := omega) only [jset_k, jset_j, jset_same, true_and, and_true]) (fun i a b => by simp (disch := omega) only [jset_k, jset_j, jset_same, true_and, and_true])
                         · intro p h0 h1
                           simp (disch := omega) only [jset_k, jset_j, jset_same, true_and, and_true] at h1
                           have h := hI.2.1.2.2.2.2.2.1 p h0 h1
                           simp (disch := omega) only [jset_k, jset_j, jset_same, true_and, and_true]
                           omega
                         · exact hI.2.1.2.2.2.2.2.2.1.fr (by omega) (by simp (disch := omega) only [jset_k, jset_j, jset_same, true_and, and_true]) (fun i a b => by simp (disch := omega) only [jset_k, jset_j, jset_same, true_and, and_true])
                         · exact hI.2.1.2.2.2.2.2.2.2.1.fr (by omega) (fun i a b => by simp (disch := omega) only [jset_k, jset_j, jset_same, true_and, and_true]) (fun i a b => by simp (disch := omega) only [jset_k, jset_j, jset_same, true_and, and_true]) (by simp (disch := omega) only [jset_k, jset_j, jset_same, true_and, and_true]; omega)
                         · exact hI.2.1.2.2.2.2.2.2.2.2.1.fr (by omega) (fun i a b => by simp (disch := omega) only [jset_k, jset_j, jset_same, true_and, and_true])
                         · exact hI.2.1.2.2.2.2.2.2.2.2.2.1.fr (fun i a b => by simp (disch := omega) only [jset_k, jset_j, jset_same, true_and, and_true])
                         · exact hI.2.1.2.2.2.2.2.2.2.2.2.2.fr (fun i a b => by simp (disch := omega) only [jset_k, jset_j, jset_same, true_and, and_true])
                       · refine ⟨?_, ?_, ?_, ?_, ?_, ?_, ?_, ?_, ?_, ?_, ?_, ?_⟩
                         · have h := hC.cnt
                           unfold CCnt cv
                           simp (disch := omega) only [jset_k, jset_j, jset_same, true_and, and_true, Int.reduceAdd]
                           first | omega | exact h
                         · exact hI.2.2.1.2.1.fr hI.2.1.2.1 (by omega) (fun k j a b => by show _ = M (1 + k) j; unfold cv; simp (disch := omega) only [jset_k, jset_j, jset_same, true_and, and_true]) (fun i a b => by simp (disch := omega) only [jset_k, jset_j, jset_same, true_and, and_true])
                         · exact hI.2.2.1.2.2.1.fr hI.2.1.2.2.1 (by omega) (fun k j a b => by show _ = M (1 + k) j; unfold cv; simp (disch := omega) only [jset_k, jset_j, jset_same, true_and, and_true]) (fun i a b => by simp (disch := omega) only [jset_k, jset_j, jset_same, true_and, and_true])
                         · exact hI.2.2.1.2.2.2.1.fr (by omega) (fun k j a b => by show _ = M (1 + k) j; unfold cv; simp (disch := omega) only [jset_k, jset_j, jset_same, true_and, and_true]) (fun i a b => by simp (disch := omega) only [jset_k, jset_j, jset_same, true_and, and_true])
                         · exact hI.2.2.1.2.2.2.2.1.fr (by omega) (fun k j a b => by show _ = M (1 + k) j; unfold cv; simp (disch := omega) only [jset_k, jset_j, jset_same, true_and, and_true]) (fun i a b => by simp (disch := omega) only [jset_k, jset_j, jset_same, true_and, and_true]) (fun i a b => by simp (disch := omega) only [jset_k, jset_j, jset_same, true_and, and_true])
                         · exact hI.2.2.1.2.2.2.2.2.1.fr (by omega) (fun k j a b => by show _ = M (1 + k) j; unfold cv; simp (disch := omega) only [jset_k, jset_j, jset_same, true_and, and_true]) (fun i a b => by simp (disch := omega) only [jset_k, jset_j, jset_same, true_and, and_true]) (fun i a b => by simp (disch := omega) only [jset_k, jset_j, jset_same, true_and, and_true])
                         · exact hI.2.2.1.2.2.2.2.2.2.1.fr (by omega) (fun k j a b => by show _ = M (1 + k) j; unfold cv; simp (disch := omega) only [jset_k, jset_j, jset_same, true_and, and_true]) (fun i a b => by simp (disch := omega) only [jset_k, jset_j, jset_same, true_and, and_true]) (fun i a b => by simp (disch := omega) only [jset_k, jset_j, jset_same, true_and, and_true])
                         · exact hI.2.2.1.2.2.2.2.2.2.2.1.fr (by omega) (fun k j a b => by show _ = M (1 + k) j; unfold cv; simp (disch := omega) only [jset_k, jset_j, jset_same, true_and, and_true]) (fun i a b => by simp (disch := omega) only [jset_k, jset_j, jset_same, true_and, and_true])
                         · exact hI.2.2.1.2.2.2.2.2.2.2.2.1.fr (fun k j a b => by show _ = M (1 + k) j; unfold cv; simp (disch := omega) only [jset_k, jset_j, jset_same, true_and, and_true]) (fun i a b => by simp (disch := omega) only [jset_k, jset_j, jset_same, true_and, and_true])
                         · exact hI.2.2.1.2.2.2.2.2.2.2.2.2.1.fr (fun k j a b => by show _ = M (1 + k) j; unfold cv; simp (disch := omega) only [jset_k, jset_j, jset_same, true_and, and_true]) (fun i a b => by simp (disch := omega) only [jset_k, jset_j, jset_same, true_and, and_true])
                         · exact hI.2.2.1.2.2.2.2.2.2.2.2.2.2.1.fr (by omega) (fun k j a b => by show _ = M (1 + k) j; unfold cv; simp (disch := omega) only [jset_k, jset_j, jset_same, true_and, and_true]) (fun i a b => by simp (disch := omega) only [jset_k, jset_j, jset_same, true_and, and_true])
                         · exact hI.2.2.1.2.2.2.2.2.2.2.2.2.2.2.fr hI.2.1.2.2.2.2.2.2.2.2.2.2 (fun k j a b => by show _ = M (1 + k) j; unfold cv; simp (disch := omega) only [jset_k, jset_j, jset_same, true_and, and_true]) (fun i a b => by simp (disch := omega) only [jset_k, jset_j, jset_same, true_and, and_true]))))
      · dsimp only [jpush]
        (try simp (disch := omega) only [jset_k, jset_j, jset_same, true_and, and_true] at w11)
        first
         | (exfalso; omega)
         | (skip
            refine e_if_ne 17 20 dX12_weeks_14 (by decide) (by decide) rfl (fun h => absurd h (by decide)) (fun _ => ?_)
            refine e_bipush 19 dX12_weeks_17 (by decide) rfl ?_
            refine e_iret dX12_weeks_19 ?_
            first
              | (exact ⟨by omega, hI⟩)
              | (exfalso; omega)
              | (refine ⟨by omega, ?_⟩
                 refine hI.live ?_ ?_ ?_
                 · repeat (first | exact Live.rf | refine Live.c ?_ (by omega) | refine Live.r ?_ (by omega) | refine Live.s ?_ (by omega))
                 · refine ⟨?_, ?_, ?_, ?_, ?_, ?_, ?_, ?_, ?_, ?_, ?_⟩
                   · have h := hI.2.1.1
                     unfold RCnt at h ⊢
                     simp (disch := omega) only [jset_k, jset_j, jset_same, true_and, and_true]
                     omega
                   · exact hI.2.1.2.1.fr (fun i a b => by simp (disch := omega) only [jset_k, jset_j, jset_same, true_and, and_true])
                   · exact hI.2.1.2.2.1.fr (fun i a b => by simp (disch := omega) only [jset_k, jset_j, jset_same, true_and, and_true])
                   · exact hI.2.1.2.2.2.1.fr (by omega) (fun i a b => by simp (disch := omega) only [jset_k, jset_j, jset_same, true_and, and_true])
                   · exact hI.2.1.2.2.2.2.1.fr (by omega) (fun i a b => by simp (disch := omega) only [jset_k, jset_j, jset_same, true_and, and_true]) (fun i a b => by simp (disch := omega) only [jset_k, jset_j, jset_same, true_and, and_true])
                   · intro p h0 h1
                     simp (disch := omega) only [jset_k, jset_j, jset_same, true_and, and_true] at h1
                     have h := hI.2.1.2.2.2.2.2.1 p h0 h1
                     simp (disch := omega) only [jset_k, jset_j, jset_same, true_and, and_true]
                     omega
                   · exact hI.2.1.2.2.2.2.2.2.1.fr (by omega) (by simp (disch := omega) only [jset_k, jset_j, jset_same, true_and, and_true]) (fun i a b => by simp (disch := omega) only [jset_k, jset_j, jset_same, true_and, and_true])
                   · exact hI.2.1.2.2.2.2.2.2.2.1.fr (by omega) (fun i a b => by simp (disch := omega) only [jset_k, jset_j, jset_same, true_and, and_true]) (fun i a b => by simp (disch := omega) only [jset_k, jset_j, jset_same, true_and, and_true]) (by simp (disch := omega) only [jset_k, jset_j, jset_same, true_and, and_true]; omega)
                   · exact hI.2.1.2.2.2.2.2.2.2.2.1.fr (by omega) (fun i a b => by simp (disch := omega) only [jset_k, jset_j, jset_same, true_and, and_true])
                   · exact hI.2.1.2.2.2.2.2.2.2.2.2.1.fr (fun i a b => by simp (disch := omega) only [jset_k, jset_j, jset_same, true_and, and_true])
                   · exact hI.2.1.2.2.2.2.2.2.2.2.2.2.fr (fun i a b => by simp (disch := omega) only [jset_k, jset_j, jset_same, true_and, and_true])
                 · refine ⟨?_, ?_, ?_, ?_, ?_, ?_, ?_, ?_, ?_, ?_, ?_, ?_⟩
                   · have h := hC.cnt
                     unfold CCnt cv
                     simp (disch := omega) only [jset_k, jset_j, jset_same, true_and, and_true, Int.reduceAdd]
                     first | omega | exact h
                   · exact hI.2.2.1.2.1.fr hI.2.1.2.1 (by omega) (fun k j a b => by show _ = M (1 + k) j; unfold cv; simp (disch := omega) only [jset_k, jset_j, jset_same, true_and, and_true]) (fun i a b => by simp (disch := omega) only [jset_k, jset_j, jset_same, true_and, and_true])
                   · exact hI.2.2.1.2.2.1.fr hI.2.1.2.2.1 (by omega) (fun k j a b => by show _ = M (1 + k) j; unfold cv; simp (disch := omega) only [jset_k, jset_j, jset_same, true_and, and_true]) (fun i a b => by simp (disch := omega) only [jset_k, jset_j, jset_same, true_and, and_true])
                   · exact hI.2.2.1.2.2.2.1.fr (by omega) (fun k j a b => by show _ = M (1 + k) j; unfold cv; simp (disch := omega) only [jset_k, jset_j, jset_same, true_and, and_true]) (fun i a b => by simp (disch := omega) only [jset_k, jset_j, jset_same, true_and, and_true])
                   · exact hI.2.2.1.2.2.2.2.1.fr (by omega) (fun k j a b => by show _ = M (1 + k) j; unfold cv; simp (disch := omega) only [jset_k, jset_j, jset_same, true_and, and_true]) (fun i a b => by simp (disch := omega) only [jset_k, jset_j, jset_same, true_and, and_true]) (fun i a b => by simp (disch := omega) only [jset_k, jset_j, jset_same, true_and, and_true])
                   · exact hI.2.2.1.2.2.2.2.2.1.fr (by omega) (fun k j a b => by show _ = M (1 + k) j; unfold cv; simp (disch := omega) only [jset_k, jset_j, jset_same, true_and, and_true]) (fun i a b => by simp (disch := omega) only [jset_k, jset_j, jset_same, true_and, and_true]) (fun i a b => by simp (disch := omega) only [jset_k, jset_j, jset_same, true_and, and_true])
                   · exact hI.2.2.1.2.2.2.2.2.2.1.fr (by omega) (fun k j a b => by show _ = M (1 + k) j; unfold cv; simp (disch := omega) only [jset_k, jset_j, jset_same, true_and, and_true]) (fun i a b => by simp (disch := omega) only [jset_k, jset_j, jset_same, true_and, and_true]) (fun i a b => by simp (disch := omega) only [jset_k, jset_j, jset_same, true_and, and_true])
                   · exact hI.2.2.1.2.2.2.2.2.2.2.1.fr (by omega) (fun k j a b => by show _ = M (1 + k) j; unfold cv; simp (disch := omega) only [jset_k, jset_j, jset_same, true_and, and_true]) (fun i a b => by simp (disch := omega) only [jset_k, jset_j, jset_same, true_and, and_true])
                   · exact hI.2.2.1.2.2.2.2.2.2.2.2.1.fr (fun k j a b => by show _ = M (1 + k) j; unfold cv; simp (disch := omega) only [jset_k, jset_j, jset_same, true_and, and_true]) (fun i a b => by simp (disch := omega) only [jset_k, jset_j, jset_same, true_and, and_true])
                   · exact hI.2.2.1.2.2.2.2.2.2.2.2.2.1.fr (fun k j a b => by show _ = M (1 + k) j; unfold cv; simp (disch := omega) only [jset_k, jset_j, jset_same, true_and, and_true]) (fun i a b => by simp (disch := omega) only [jset_k, jset_j, jset_same, true_and, and_true])
                   · exact hI.2.2.1.2.2.2.2.2.2.2.2.2.2.1.fr (by omega) (fun k j a b => by show _ = M (1 + k) j; unfold cv; simp (disch := omega) only [jset_k, jset_j, jset_same, true_and, and_true]) (fun i a b => by simp (disch := omega) only [jset_k, jset_j, jset_same, true_and, and_true])
                   · exact hI.2.2.1.2.2.2.2.2.2.2.2.2.2.2.fr hI.2.1.2.2.2.2.2.2.2.2.2.2 (fun k j a b => by show _ = M (1 + k) j; unfold cv; simp (disch := omega) only [jset_k, jset_j, jset_same, true_and, and_true]) (fun i a b => by simp (disch := omega) only [jset_k, jset_j, jset_same, true_and, and_true])))
    · skip
      refine e_bipush 30 dX11_weeks_28 (by decide) rfl ?_
      refine e_iret dX11_weeks_30 ?_
      refine jCt_of mt_yX12_weeks (Nat.le_of_ble_eq_true rfl) (fun X2 => ?_)
      refine e_aload_n (i := 0) 1 dX12_weeks_0 rfl rfl rfl ?_
      refine e_iconst 2 dX12_weeks_1 rfl ?_
      refine e_put0 (j := 0) 5 fl_12_1 dX12_weeks_2 at_928 rfl rfl rfl (by decide) hI.1 rfl ?_
      refine e_iload_n (i := 1) 6 dX12_weeks_5 rfl rfl rfl ?_
      refine e_i2l 7 dX12_weeks_6 (by omega) rfl ?_
      refine e_lconst1 8 dX12_weeks_7 rfl ?_
      refine e_ldc2 (z := (52)) 11 (ix := 219) wd_1515 (by decide) dX12_weeks_8 rfl ?_
      refine e_callS 14 mt_yX12_within ms_yX12_within wd_1390 (by decide) dX12_weeks_11 rfl rfl (Nat.le_of_ble_eq_true rfl) (jroom (by decide)) rfl (m_within (by omega) (by omega) (by omega) (fun w11 => ?_) (fun w11 => ?_))
      · dsimp only [jpush]
        first
         | (exfalso; omega)
         | (skip
            refine e_if_ne 17 20 dX12_weeks_14 (by decide) (by decide) rfl (fun _ => ?_) (fun h => absurd h (by decide))
            refine e_aload_n (i := 0) 21 dX12_weeks_20 rfl rfl rfl ?_
            refine e_getr (j := 1) 24 fl_12_13 dX12_weeks_21 at_928 rfl rfl tp_928_1 rfl ?_
            refine e_sipush 27 dX12_weeks_24 (by decide) rfl ?_
            refine e_iald 28 dX12_weeks_27 ar_929 (by decide) (by decide) rfl (fun r27 => ?_)
            refine e_iload_n (i := 1) 29 dX12_weeks_28 rfl rfl rfl ?_
            refine e_iadd 30 dX12_weeks_29 rfl ?_
            refine e_sipush 33 dX12_weeks_30 (by decide) rfl ?_
            refine e_icmp_le 36 39 dX12_weeks_33 (by omega) (by decide) (by decide) rfl (fun b33 => ?_) (fun b33 => ?_)
            · first
               | (exfalso; omega)
               | (skip
                  refine e_aload_n (i := 0) 40 dX12_weeks_39 rfl rfl rfl ?_
                  refine e_getr (j := 1) 43 fl_12_13 dX12_weeks_40 at_928 rfl rfl tp_928_1 rfl ?_
                  refine e_sipush 46 dX12_weeks_43 (by decide) rfl ?_
                  refine e_dup2 47 dX12_weeks_46 rfl rfl rfl ?_
                  refine e_iald 48 dX12_weeks_47 ar_929 (by decide) (by decide) rfl (fun r47 => ?_)
                  refine e_iload_n (i := 1) 49 dX12_weeks_48 rfl rfl rfl ?_
                  refine e_iadd 50 dX12_weeks_49 rfl ?_
                  refine e_iast 51 dX12_weeks_50 ar_929 (by decide) (by decide) (by omega) rfl ?_
                  refine e_aload_n (i := 0) 52 dX12_weeks_51 rfl rfl rfl ?_
                  refine e_getr (j := 1) 55 fl_12_13 dX12_weeks_52 at_928 rfl rfl tp_928_1 rfl ?_
                  refine e_sipush 58 dX12_weeks_55 (by decide) rfl ?_
                  refine e_iald 59 dX12_weeks_58 ar_929 (by decide) (by decide) rfl (fun r58 => ?_)
                  simp (disch := omega) only [jset_k, jset_j, jset_same, true_and, and_true] at r58 ⊢
                  refine e_iret dX12_weeks_59 ?_
                  first
                    | (exact ⟨by omega, hI⟩)
                    | (exfalso; omega)
                    | (refine ⟨by omega, ?_⟩
                       refine hI.live ?_ ?_ ?_
                       · repeat (first | exact Live.rf | refine Live.c ?_ (by omega) | refine Live.r ?_ (by omega) | refine Live.s ?_ (by omega))
                       · refine ⟨?_, ?_, ?_, ?_, ?_, ?_, ?_, ?_, ?_, ?_, ?_⟩
                         · have h := hI.2.1.1
                           unfold RCnt at h ⊢
                           simp (disch := omega) only [jset_k, jset_j, jset_same, true_and, and_true]
                           omega
                         · exact hI.2.1.2.1.fr (fun i a b => by simp (disch := omega) only [jset_k, jset_j, jset_same, true_and, and_true])
                         · exact hI.2.1.2.2.1.fr (fun i a b => by simp (disch := omega) only [jset_k, jset_j, jset_same, true_and, and_true])
                         · exact hI.2.1.2.2.2.1.fr (by omega) (fun i a b => by simp (disch := omega) only [jset_k, jset_j, jset_same, true_and, and_true])
                         · exact hI.2.1.2.2.2.2.1.fr (by omega) (fun i a b => by simp (disch := omega) only [jset_k, jset_j, jset_same, true_and, and_true]) (fun i a b => by simp (disch := omega) only [jset_k, jset_j, jset_same, true_and, and_true])
                         · intro p h0 h1
                           simp (disch := omega) only [jset_k, jset_j, jset_same, true_and, and_true] at h1
                           have h := hI.2.1.2.2.2.2.2.1 p h0 h1
                           simp (disch := omega) only [jset_k, jset_j, jset_same, true_and, and_true]
                           omega
                         · exact hI.2.1.2.2.2.2.2.2.1.fr (by omega) (by simp (disch := omega) only [jset_k, jset_j, jset_same, true_and, and_true]) (fun i a b => by simp (disch := omega) only [jset_k, jset_j, jset_same, true_and, and_true])
                         · exact hI.2.1.2.2.2.2.2.2.2.1.fr (by omega) (fun i a b => by simp (disch := omega) only [jset_k, jset_j, jset_same, true_and, and_true]) (fun i a b => by simp (disch := omega) only [jset_k, jset_j, jset_same, true_and, and_true]) (by simp (disch := omega) only [jset_k, jset_j, jset_same, true_and, and_true]; omega)
                         · exact hI.2.1.2.2.2.2.2.2.2.2.1.fr (by omega) (fun i a b => by simp (disch := omega) only [jset_k, jset_j, jset_same, true_and, and_true])
                         · exact hI.2.1.2.2.2.2.2.2.2.2.2.1.fr (fun i a b => by simp (disch := omega) only [jset_k, jset_j, jset_same, true_and, and_true])
                         · exact hI.2.1.2.2.2.2.2.2.2.2.2.2.fr (fun i a b => by simp (disch := omega) only [jset_k, jset_j, jset_same, true_and, and_true])
                       · refine ⟨?_, ?_, ?_, ?_, ?_, ?_, ?_, ?_, ?_, ?_, ?_, ?_⟩
                         · have h := hC.cnt
                           unfold CCnt cv
                           simp (disch := omega) only [jset_k, jset_j, jset_same, true_and, and_true, Int.reduceAdd]
                           first | omega | exact h
                         · exact hI.2.2.1.2.1.fr hI.2.1.2.1 (by omega) (fun k j a b => by show _ = M (1 + k) j; unfold cv; simp (disch := omega) only [jset_k, jset_j, jset_same, true_and, and_true]) (fun i a b => by simp (disch := omega) only [jset_k, jset_j, jset_same, true_and, and_true])
                         · exact hI.2.2.1.2.2.1.fr hI.2.1.2.2.1 (by omega) (fun k j a b => by show _ = M (1 + k) j; unfold cv; simp (disch := omega) only [jset_k, jset_j, jset_same, true_and, and_true]) (fun i a b => by simp (disch := omega) only [jset_k, jset_j, jset_same, true_and, and_true])
                         · exact hI.2.2.1.2.2.2.1.fr (by omega) (fun k j a b => by show _ = M (1 + k) j; unfold cv; simp (disch := omega) only [jset_k, jset_j, jset_same, true_and, and_true]) (fun i a b => by simp (disch := omega) only [jset_k, jset_j, jset_same, true_and, and_true])
                         · exact hI.2.2.1.2.2.2.2.1.fr (by omega) (fun k j a b => by show _ = M (1 + k) j; unfold cv; simp (disch := omega) only [jset_k, jset_j, jset_same, true_and, and_true]) (fun i a b => by simp (disch := omega) only [jset_k, jset_j, jset_same, true_and, and_true]) (fun i a b => by simp (disch := omega) only [jset_k, jset_j, jset_same, true_and, and_true])
                         · exact hI.2.2.1.2.2.2.2.2.1.fr (by omega) (fun k j a b => by show _ = M (1 + k) j; unfold cv; simp (disch := omega) only [jset_k, jset_j, jset_same, true_and, and_true]) (fun i a b => by simp (disch := omega) only [jset_k, jset_j, jset_same, true_and, and_true]) (fun i a b => by simp (disch := omega) only [jset_k, jset_j, jset_same, true_and, and_true])
                         · exact hI.2.2.1.2.2.2.2.2.2.1.fr (by omega) (fun k j a b => by show _ = M (1 + k) j; unfold cv; simp (disch := omega) only [jset_k, jset_j, jset_same, true_and, and_true]) (fun i a b => by simp (disch := omega) only [jset_k, jset_j, jset_same, true_and, and_true]) (fun i a b => by simp (disch := omega) only [jset_k, jset_j, jset_same, true_and, and_true])
                         · exact hI.2.2.1.2.2.2.2.2.2.2.1.fr (by omega) (fun k j a b => by show _ = M (1 + k) j; unfold cv; simp (disch := omega) only [jset_k, jset_j, jset_same, true_and, and_true]) (fun i a b => by simp (disch := omega) only [jset_k, jset_j, jset_same, true_and, and_true])
                         · exact hI.2.2.1.2.2.2.2.2.2.2.2.1.fr (fun k j a b => by show _ = M (1 + k) j; unfold cv; simp (disch := omega) only [jset_k, jset_j, jset_same, true_and, and_true]) (fun i a b => by simp (disch := omega) only [jset_k, jset_j, jset_same, true_and, and_true])
                         · exact hI.2.2.1.2.2.2.2.2.2.2.2.2.1.fr (fun k j a b => by show _ = M (1 + k) j; unfold cv; simp (disch := omega) only [jset_k, jset_j, jset_same, true_and, and_true]) (fun i a b => by simp (disch := omega) only [jset_k, jset_j, jset_same, true_and, and_true])
                         · exact hI.2.2.1.2.2.2.2.2.2.2.2.2.2.1.fr (by omega) (fun k j a b => by show _ = M (1 + k) j; unfold cv; simp (disch := omega) only [jset_k, jset_j, jset_same, true_and, and_true]) (fun i a b => by simp (disch := omega) only [jset_k, jset_j, jset_same, true_and, and_true])
                         · exact hI.2.2.1.2.2.2.2.2.2.2.2.2.2.2.fr hI.2.1.2.2.2.2.2.2.2.2.2.2 (fun k j a b => by show _ = M (1 + k) j; unfold cv; simp (disch := omega) only [jset_k, jset_j, jset_same, true_and, and_true]) (fun i a b => by simp (disch := omega) only [jset_k, jset_j, jset_same, true_and, and_true])))
            · first
               | (exfalso; omega)
               | (skip
                  refine e_bipush 38 dX12_weeks_36 (by decide) rfl ?_
                  refine e_iret dX12_weeks_38 ?_
                  first
                    | (exact ⟨by omega, hI⟩)
                    | (exfalso; omega)))
      · dsimp only [jpush]
        first
         | (exfalso; omega)
         | (skip
            refine e_if_ne 17 20 dX12_weeks_14 (by decide) (by decide) rfl (fun h => absurd h (by decide)) (fun _ => ?_)
            refine e_bipush 19 dX12_weeks_17 (by decide) rfl ?_
            refine e_iret dX12_weeks_19 ?_
            first
              | (exact ⟨by omega, hI⟩)
              | (exfalso; omega))
  · dsimp only [jpush]
    refine e_if_ne 10 13 dX11_weeks_7 (by decide) (by decide) rfl (fun h => absurd h (by decide)) (fun _ => ?_)
    refine e_bipush 12 dX11_weeks_10 (by decide) rfl ?_
    refine e_iret dX11_weeks_12 ?_
    refine jCt_of mt_yX12_weeks (Nat.le_of_ble_eq_true rfl) (fun X2 => ?_)
    refine e_aload_n (i := 0) 1 dX12_weeks_0 rfl rfl rfl ?_
    refine e_iconst 2 dX12_weeks_1 rfl ?_
    refine e_put0 (j := 0) 5 fl_12_1 dX12_weeks_2 at_928 rfl rfl rfl (by decide) hI.1 rfl ?_
    refine e_iload_n (i := 1) 6 dX12_weeks_5 rfl rfl rfl ?_
    refine e_i2l 7 dX12_weeks_6 (by omega) rfl ?_
    refine e_lconst1 8 dX12_weeks_7 rfl ?_
    refine e_ldc2 (z := (52)) 11 (ix := 219) wd_1515 (by decide) dX12_weeks_8 rfl ?_
    refine e_callS 14 mt_yX12_within ms_yX12_within wd_1390 (by decide) dX12_weeks_11 rfl rfl (Nat.le_of_ble_eq_true rfl) (jroom (by decide)) rfl (m_within (by omega) (by omega) (by omega) (fun w11 => ?_) (fun w11 => ?_))
    · dsimp only [jpush]
      first
       | (exfalso; omega)
       | (skip
          refine e_if_ne 17 20 dX12_weeks_14 (by decide) (by decide) rfl (fun _ => ?_) (fun h => absurd h (by decide))
          refine e_aload_n (i := 0) 21 dX12_weeks_20 rfl rfl rfl ?_
          refine e_getr (j := 1) 24 fl_12_13 dX12_weeks_21 at_928 rfl rfl tp_928_1 rfl ?_
          refine e_sipush 27 dX12_weeks_24 (by decide) rfl ?_
          refine e_iald 28 dX12_weeks_27 ar_929 (by decide) (by decide) rfl (fun r27 => ?_)
          refine e_iload_n (i := 1) 29 dX12_weeks_28 rfl rfl rfl ?_
          refine e_iadd 30 dX12_weeks_29 rfl ?_
          refine e_sipush 33 dX12_weeks_30 (by decide) rfl ?_
          refine e_icmp_le 36 39 dX12_weeks_33 (by omega) (by decide) (by decide) rfl (fun b33 => ?_) (fun b33 => ?_)
          · first
             | (exfalso; omega)
             | (skip
                refine e_aload_n (i := 0) 40 dX12_weeks_39 rfl rfl rfl ?_
                refine e_getr (j := 1) 43 fl_12_13 dX12_weeks_40 at_928 rfl rfl tp_928_1 rfl ?_
                refine e_sipush 46 dX12_weeks_43 (by decide) rfl ?_
                refine e_dup2 47 dX12_weeks_46 rfl rfl rfl ?_
                refine e_iald 48 dX12_weeks_47 ar_929 (by decide) (by decide) rfl (fun r47 => ?_)
                refine e_iload_n (i := 1) 49 dX12_weeks_48 rfl rfl rfl ?_
                refine e_iadd 50 dX12_weeks_49 rfl ?_
                refine e_iast 51 dX12_weeks_50 ar_929 (by decide) (by decide) (by omega) rfl ?_
                refine e_aload_n (i := 0) 52 dX12_weeks_51 rfl rfl rfl ?_
                refine e_getr (j := 1) 55 fl_12_13 dX12_weeks_52 at_928 rfl rfl tp_928_1 rfl ?_
                refine e_sipush 58 dX12_weeks_55 (by decide) rfl ?_
                refine e_iald 59 dX12_weeks_58 ar_929 (by decide) (by decide) rfl (fun r58 => ?_)
                simp (disch := omega) only [jset_k, jset_j, jset_same, true_and, and_true] at r58 ⊢
                refine e_iret dX12_weeks_59 ?_
                first
                  | (exact ⟨by omega, hI⟩)
                  | (exfalso; omega)
                  | (refine ⟨by omega, ?_⟩
                     refine hI.live ?_ ?_ ?_
                     · repeat (first | exact Live.rf | refine Live.c ?_ (by omega) | refine Live.r ?_ (by omega) | refine Live.s ?_ (by omega))
                     · refine ⟨?_, ?_, ?_, ?_, ?_, ?_, ?_, ?_, ?_, ?_, ?_⟩
                       · have h := hI.2.1.1
                         unfold RCnt at h ⊢
                         simp (disch := omega) only [jset_k, jset_j, jset_same, true_and, and_true]
                         omega
                       · exact hI.2.1.2.1.fr (fun i a b => by simp (disch := omega) only [jset_k, jset_j, jset_same, true_and, and_true])
                       · exact hI.2.1.2.2.1.fr (fun i a b => by simp (disch := omega) only [jset_k, jset_j, jset_same, true_and, and_true])
                       · exact hI.2.1.2.2.2.1.fr (by omega) (fun i a b => by simp (disch := omega) only [jset_k, jset_j, jset_same, true_and, and_true])
                       · exact hI.2.1.2.2.2.2.1.fr (by omega) (fun i a b => by simp (disch := omega) only [jset_k, jset_j, jset_same, true_and, and_true]) (fun i a b => by simp (disch := omega) only [jset_k, jset_j, jset_same, true_and, and_true])
                       · intro p h0 h1
                         simp (disch := omega) only [jset_k, jset_j, jset_same, true_and, and_true] at h1
                         have h := hI.2.1.2.2.2.2.2.1 p h0 h1
                         simp (disch := omega) only [jset_k, jset_j, jset_same, true_and, and_true]
                         omega
                       · exact hI.2.1.2.2.2.2.2.2.1.fr (by omega) (by simp (disch := omega) only [jset_k, jset_j, jset_same, true_and, and_true]) (fun i a b => by simp (disch := omega) only [jset_k, jset_j, jset_same, true_and, and_true])
                       · exact hI.2.1.2.2.2.2.2.2.2.1.fr (by omega) (fun i a b => by simp (disch := omega) only [jset_k, jset_j, jset_same, true_and, and_true]) (fun i a b => by simp (disch := omega) only [jset_k, jset_j, jset_same, true_and, and_true]) (by simp (disch := omega) only [jset_k, jset_j, jset_same, true_and, and_true]; omega)
                       · exact hI.2.1.2.2.2.2.2.2.2.2.1.fr (by omega) (fun i a b => by simp (disch := omega) only [jset_k, jset_j, jset_same, true_and, and_true])
                       · exact hI.2.1.2.2.2.2.2.2.2.2.2.1.fr (fun i a b => by simp (disch := omega) only [jset_k, jset_j, jset_same, true_and, and_true])
                       · exact hI.2.1.2.2.2.2.2.2.2.2.2.2.fr (fun i a b => by simp (disch := omega) only [jset_k, jset_j, jset_same, true_and, and_true])
                     · refine ⟨?_, ?_, ?_, ?_, ?_, ?_, ?_, ?_, ?_, ?_, ?_, ?_⟩
                       · have h := hC.cnt
                         unfold CCnt cv
                         simp (disch := omega) only [jset_k, jset_j, jset_same, true_and, and_true, Int.reduceAdd]
                         first | omega | exact h
                       · exact hI.2.2.1.2.1.fr hI.2.1.2.1 (by omega) (fun k j a b => by show _ = M (1 + k) j; unfold cv; simp (disch := omega) only [jset_k, jset_j, jset_same, true_and, and_true]) (fun i a b => by simp (disch := omega) only [jset_k, jset_j, jset_same, true_and, and_true])
                       · exact hI.2.2.1.2.2.1.fr hI.2.1.2.2.1 (by omega) (fun k j a b => by show _ = M (1 + k) j; unfold cv; simp (disch := omega) only [jset_k, jset_j, jset_same, true_and, and_true]) (fun i a b => by simp (disch := omega) only [jset_k, jset_j, jset_same, true_and, and_true])
                       · exact hI.2.2.1.2.2.2.1.fr (by omega) (fun k j a b => by show _ = M (1 + k) j; unfold cv; simp (disch := omega) only [jset_k, jset_j, jset_same, true_and, and_true]) (fun i a b => by simp (disch := omega) only [jset_k, jset_j, jset_same, true_and, and_true])
                       · exact hI.2.2.1.2.2.2.2.1.fr (by omega) (fun k j a b => by show _ = M (1 + k) j; unfold cv; simp (disch := omega) only [jset_k, jset_j, jset_same, true_and, and_true]) (fun i a b => by simp (disch := omega) only [jset_k, jset_j, jset_same, true_and, and_true]) (fun i a b => by simp (disch := omega) only [jset_k, jset_j, jset_same, true_and, and_true])
                       · exact hI.2.2.1.2.2.2.2.2.1.fr (by omega) (fun k j a b => by show _ = M (1 + k) j; unfold cv; simp (disch := omega) only [jset_k, jset_j, jset_same, true_and, and_true]) (fun i a b => by simp (disch := omega) only [jset_k, jset_j, jset_same, true_and, and_true]) (fun i a b => by simp (disch := omega) only [jset_k, jset_j, jset_same, true_and, and_true])
                       · exact hI.2.2.1.2.2.2.2.2.2.1.fr (by omega) (fun k j a b => by show _ = M (1 + k) j; unfold cv; simp (disch := omega) only [jset_k, jset_j, jset_same, true_and, and_true]) (fun i a b => by simp (disch := omega) only [jset_k, jset_j, jset_same, true_and, and_true]) (fun i a b => by simp (disch := omega) only [jset_k, jset_j, jset_same, true_and, and_true])
                       · exact hI.2.2.1.2.2.2.2.2.2.2.1.fr (by omega) (fun k j a b => by show _ = M (1 + k) j; unfold cv; simp (disch := omega) only [jset_k, jset_j, jset_same, true_and, and_true]) (fun i a b => by simp (disch := omega) only [jset_k, jset_j, jset_same, true_and, and_true])
                       · exact hI.2.2.1.2.2.2.2.2.2.2.2.1.fr (fun k j a b => by show _ = M (1 + k) j; unfold cv; simp (disch := omega) only [jset_k, jset_j, jset_same, true_and, and_true]) (fun i a b => by simp (disch := omega) only [jset_k, jset_j, jset_same, true_and, and_true])
                       · exact hI.2.2.1.2.2.2.2.2.2.2.2.2.1.fr (fun k j a b => by show _ = M (1 + k) j; unfold cv; simp (disch := omega) only [jset_k, jset_j, jset_same, true_and, and_true]) (fun i a b => by simp (disch := omega) only [jset_k, jset_j, jset_same, true_and, and_true])
                       · exact hI.2.2.1.2.2.2.2.2.2.2.2.2.2.1.fr (by omega) (fun k j a b => by show _ = M (1 + k) j; unfold cv; simp (disch := omega) only [jset_k, jset_j, jset_same, true_and, and_true]) (fun i a b => by simp (disch := omega) only [jset_k, jset_j, jset_same, true_and, and_true])
                       · exact hI.2.2.1.2.2.2.2.2.2.2.2.2.2.2.fr hI.2.1.2.2.2.2.2.2.2.2.2.2 (fun k j a b => by show _ = M (1 + k) j; unfold cv; simp (disch := omega) only [jset_k, jset_j, jset_same, true_and, and_true]) (fun i a b => by simp (disch := omega) only [jset_k, jset_j, jset_same, true_and, and_true])))
          · first
             | (exfalso; omega)
             | (skip
                refine e_bipush 38 dX12_weeks_36 (by decide) rfl ?_
                refine e_iret dX12_weeks_38 ?_
                first
                  | (exact ⟨by omega, hI⟩)
                  | (exfalso; omega)))
    · dsimp only [jpush]
      first
       | (exfalso; omega)
       | (skip
          refine e_if_ne 17 20 dX12_weeks_14 (by decide) (by decide) rfl (fun h => absurd h (by decide)) (fun _ => ?_)
          refine e_bipush 19 dX12_weeks_17 (by decide) rfl ?_
          refine e_iret dX12_weeks_19 ?_
          first
            | (exact ⟨by omega, hI⟩)
            | (exfalso; omega))

theorem p_kind {M : jM} (hI : Inv M) {size : Int} (hsize : -2147483648 ≤ size ∧ size ≤ 2147483647) {low : Int} (hlow : -2147483648 ≤ low ∧ low ≤ 2147483647) {high : Int} (hhigh : -2147483648 ≤ high ∧ high ≤ 2147483647) {glass : Int} (hglass : -2147483648 ≤ glass ∧ glass ≤ 2147483647) {cloth : Int} (hcloth : cloth = 0 ∨ cloth = 1) : jCt yX11_kind cX11_kind 7 (some .int) 2 [jR 0, jI size, jI low, jI high, jI glass, jI cloth] M (fun z M1 => jCt yX12_kind cX12_kind 7 (some .int) 2 [jR 928, jI size, jI low, jI high, jI glass, jI cloth] M1 (fun z2 M2 => z = z2 ∧ Inv M2)) := by
  have hC := hI.cr
  have hn := hC.cnt
  have hg := hC.rng
  refine jCt_of mt_yX11_kind (Nat.le_of_ble_eq_true rfl) (fun X => ?_)
  refine e_iload_n (i := 1) 1 dX11_kind_0 rfl rfl rfl ?_
  refine e_iconst 2 dX11_kind_1 rfl ?_
  refine e_bipush 4 dX11_kind_2 (by decide) rfl ?_
  refine e_callS 7 mt_yX11_within ms_yX11_within wd_531 (by decide) dX11_kind_4 rfl rfl (Nat.le_of_ble_eq_true rfl) (jroom (by decide)) rfl (c_within (by omega) (by omega) (by omega) (fun w4 => ?_) (fun w4 => ?_))
  · dsimp only [jpush]
    refine e_if_eq 10 43 dX11_kind_7 (by decide) (by decide) rfl (fun h => absurd h (by decide)) (fun _ => ?_)
    refine e_iload_n (i := 2) 11 dX11_kind_10 rfl rfl rfl ?_
    refine e_iconst 12 dX11_kind_11 rfl ?_
    refine e_sipush 15 dX11_kind_12 (by decide) rfl ?_
    refine e_callS 18 mt_yX11_within ms_yX11_within wd_531 (by decide) dX11_kind_15 rfl rfl (Nat.le_of_ble_eq_true rfl) (jroom (by decide)) rfl (c_within (by omega) (by omega) (by omega) (fun w15 => ?_) (fun w15 => ?_))
    · dsimp only [jpush]
      refine e_if_eq 21 43 dX11_kind_18 (by decide) (by decide) rfl (fun h => absurd h (by decide)) (fun _ => ?_)
      refine e_iload_n (i := 3) 22 dX11_kind_21 rfl rfl rfl ?_
      refine e_iload_n (i := 2) 23 dX11_kind_22 rfl rfl rfl ?_
      refine e_sipush 26 dX11_kind_23 (by decide) rfl ?_
      refine e_callS 29 mt_yX11_within ms_yX11_within wd_531 (by decide) dX11_kind_26 rfl rfl (Nat.le_of_ble_eq_true rfl) (jroom (by decide)) rfl (c_within (by omega) (by omega) (by omega) (fun w26 => ?_) (fun w26 => ?_))
      · dsimp only [jpush]
        refine e_if_eq 32 43 dX11_kind_29 (by decide) (by decide) rfl (fun h => absurd h (by decide)) (fun _ => ?_)
        refine e_iload 34 dX11_kind_32 rfl rfl ?_
        refine e_iconst 35 dX11_kind_34 rfl ?_
        refine e_bipush 37 dX11_kind_35 (by decide) rfl ?_
        refine e_callS 40 mt_yX11_within ms_yX11_within wd_531 (by decide) dX11_kind_37 rfl rfl (Nat.le_of_ble_eq_true rfl) (jroom (by decide)) rfl (c_within (by omega) (by omega) (by omega) (fun w37 => ?_) (fun w37 => ?_))
        · dsimp only [jpush]
          refine e_if_ne 43 46 dX11_kind_40 (by decide) (by decide) rfl (fun _ => ?_) (fun h => absurd h (by decide))
          refine e_aload_n (i := 0) 47 dX11_kind_46 rfl rfl rfl ?_
          refine e_getr (j := 0) 50 fl_11_10 dX11_kind_47 at_0 rfl rfl tp_0_0 rfl ?_
          refine e_geti (j := 6) 53 fl_11_122 dX11_kind_50 at_1 (by decide) rfl rfl (fun r50 => ?_)
          refine e_bipush 55 dX11_kind_53 (by decide) rfl ?_
          refine e_icmp_lt 58 61 dX11_kind_55 (by omega) (by decide) (by decide) rfl (fun b55 => ?_) (fun b55 => ?_)
          · skip
            refine e_aload_n (i := 0) 62 dX11_kind_61 rfl rfl rfl ?_
            refine e_getr (j := 0) 65 fl_11_10 dX11_kind_62 at_0 rfl rfl tp_0_0 rfl ?_
            refine e_getr (j := 5) 68 fl_11_125 dX11_kind_65 at_1 rfl rfl tp_1_5 rfl ?_
            refine e_aload_n (i := 0) 69 dX11_kind_68 rfl rfl rfl ?_
            refine e_getr (j := 0) 72 fl_11_10 dX11_kind_69 at_0 rfl rfl tp_0_0 rfl ?_
            refine e_geti (j := 6) 75 fl_11_122 dX11_kind_72 at_1 (by decide) rfl rfl (fun r72 => ?_)
            refine e_aald 76 dX11_kind_75 ar_16 (by decide) (by omega) (by omega) (tp_kind (by omega) (by omega)) rfl ?_
            refine e_astore (lsn := [(6, _), (0, _), (1, _), (2, _), (3, _), (4, _), (5, _)]) 78 dX11_kind_76 (by decide) rfl rfl ?_
            refine e_aload 80 dX11_kind_78 rfl rfl ?_
            refine e_iload_n (i := 1) 81 dX11_kind_80 rfl rfl rfl ?_
            refine e_puti (j := 0) 84 fl_11_129 dX11_kind_81 (at_kind (by omega) (by omega)) rfl rfl rfl (by omega) rfl ?_
            refine e_aload 86 dX11_kind_84 rfl rfl ?_
            refine e_iload_n (i := 2) 87 dX11_kind_86 rfl rfl rfl ?_
            refine e_puti (j := 1) 90 fl_11_134 dX11_kind_87 (at_kind (by omega) (by omega)) rfl rfl rfl (by omega) rfl ?_
            refine e_aload 92 dX11_kind_90 rfl rfl ?_
            refine e_iload_n (i := 3) 93 dX11_kind_92 rfl rfl rfl ?_
            refine e_puti (j := 2) 96 fl_11_137 dX11_kind_93 (at_kind (by omega) (by omega)) rfl rfl rfl (by omega) rfl ?_
            refine e_aload 98 dX11_kind_96 rfl rfl ?_
            refine e_iload 100 dX11_kind_98 rfl rfl ?_
            refine e_puti (j := 3) 103 fl_11_140 dX11_kind_100 (at_kind (by omega) (by omega)) rfl rfl rfl (by omega) rfl ?_
            refine e_aload 105 dX11_kind_103 rfl rfl ?_
            refine e_iload 107 dX11_kind_105 rfl rfl ?_
            refine e_putz (j := 4) 110 fl_11_143 dX11_kind_107 (at_kind (by omega) (by omega)) rfl rfl rfl (by omega) rfl ?_
            refine e_aload_n (i := 0) 111 dX11_kind_110 rfl rfl rfl ?_
            refine e_getr (j := 0) 114 fl_11_10 dX11_kind_111 at_0 rfl rfl tp_0_0 rfl ?_
            refine e_dup 115 dX11_kind_114 rfl rfl ?_
            refine e_geti (j := 6) 118 fl_11_122 dX11_kind_115 at_1 (by decide) rfl rfl (fun r115 => ?_)
            simp (disch := omega) only [jset_k, jset_j, jset_same, true_and, and_true] at r115 ⊢
            refine e_iconst 119 dX11_kind_118 rfl ?_
            refine e_iadd 120 dX11_kind_119 rfl ?_
            refine e_puti (j := 6) 123 fl_11_122 dX11_kind_120 at_1 rfl rfl rfl (by omega) rfl ?_
            refine e_aload_n (i := 0) 124 dX11_kind_123 rfl rfl rfl ?_
            refine e_getr (j := 0) 127 fl_11_10 dX11_kind_124 at_0 rfl rfl tp_0_0 rfl ?_
            refine e_geti (j := 6) 130 fl_11_122 dX11_kind_127 at_1 (by decide) rfl rfl (fun r127 => ?_)
            simp (disch := omega) only [jset_k, jset_j, jset_same, true_and, and_true] at r127 ⊢
            refine e_iconst 131 dX11_kind_130 rfl ?_
            refine e_isub 132 dX11_kind_131 rfl ?_
            refine e_iret dX11_kind_132 ?_
            refine jCt_of mt_yX12_kind (Nat.le_of_ble_eq_true rfl) (fun X2 => ?_)
            refine e_aload_n (i := 0) 1 dX12_kind_0 rfl rfl rfl ?_
            refine e_iconst 2 dX12_kind_1 rfl ?_
            refine e_put0 (j := 0) 5 fl_12_1 dX12_kind_2 at_928 rfl rfl rfl (by decide) (by simp (disch := omega) only [jset_k, jset_j, jset_same, true_and, and_true]; exact hI.1) rfl ?_
            refine e_iload_n (i := 1) 6 dX12_kind_5 rfl rfl rfl ?_
            refine e_i2l 7 dX12_kind_6 (by omega) rfl ?_
            refine e_lconst1 8 dX12_kind_7 rfl ?_
            refine e_ldc2 (z := (9)) 11 (ix := 209) wd_1495 (by decide) dX12_kind_8 rfl ?_
            refine e_callS 14 mt_yX12_within ms_yX12_within wd_1390 (by decide) dX12_kind_11 rfl rfl (Nat.le_of_ble_eq_true rfl) (jroom (by decide)) rfl (m_within (by omega) (by omega) (by omega) (fun w11 => ?_) (fun w11 => ?_))
            · dsimp only [jpush]
              (try simp (disch := omega) only [jset_k, jset_j, jset_same, true_and, and_true] at w11)
              first
               | (exfalso; omega)
               | (skip
                  refine e_if_eq 17 55 dX12_kind_14 (by decide) (by decide) rfl (fun h => absurd h (by decide)) (fun _ => ?_)
                  refine e_iload_n (i := 2) 18 dX12_kind_17 rfl rfl rfl ?_
                  refine e_i2l 19 dX12_kind_18 (by omega) rfl ?_
                  refine e_lconst1 20 dX12_kind_19 rfl ?_
                  refine e_ldc2 (z := (999)) 23 (ix := 198) wd_1482 (by decide) dX12_kind_20 rfl ?_
                  refine e_callS 26 mt_yX12_within ms_yX12_within wd_1390 (by decide) dX12_kind_23 rfl rfl (Nat.le_of_ble_eq_true rfl) (jroom (by decide)) rfl (m_within (by omega) (by omega) (by omega) (fun w23 => ?_) (fun w23 => ?_))
                  · dsimp only [jpush]
                    (try simp (disch := omega) only [jset_k, jset_j, jset_same, true_and, and_true] at w23)
                    first
                     | (exfalso; omega)
                     | (skip
                        refine e_if_eq 29 55 dX12_kind_26 (by decide) (by decide) rfl (fun h => absurd h (by decide)) (fun _ => ?_)
                        refine e_iload_n (i := 3) 30 dX12_kind_29 rfl rfl rfl ?_
                        refine e_i2l 31 dX12_kind_30 (by omega) rfl ?_
                        refine e_iload_n (i := 2) 32 dX12_kind_31 rfl rfl rfl ?_
                        refine e_i2l 33 dX12_kind_32 (by omega) rfl ?_
                        refine e_ldc2 (z := (999)) 36 (ix := 198) wd_1482 (by decide) dX12_kind_33 rfl ?_
                        refine e_callS 39 mt_yX12_within ms_yX12_within wd_1390 (by decide) dX12_kind_36 rfl rfl (Nat.le_of_ble_eq_true rfl) (jroom (by decide)) rfl (m_within (by omega) (by omega) (by omega) (fun w36 => ?_) (fun w36 => ?_))
                        · dsimp only [jpush]
                          (try simp (disch := omega) only [jset_k, jset_j, jset_same, true_and, and_true] at w36)
                          first
                           | (exfalso; omega)
                           | (skip
                              refine e_if_eq 42 55 dX12_kind_39 (by decide) (by decide) rfl (fun h => absurd h (by decide)) (fun _ => ?_)
                              refine e_iload 44 dX12_kind_42 rfl rfl ?_
                              refine e_i2l 45 dX12_kind_44 (by omega) rfl ?_
                              refine e_lconst0 46 dX12_kind_45 rfl ?_
                              refine e_ldc2 (z := (99)) 49 (ix := 211) wd_1496 (by decide) dX12_kind_46 rfl ?_
                              refine e_callS 52 mt_yX12_within ms_yX12_within wd_1390 (by decide) dX12_kind_49 rfl rfl (Nat.le_of_ble_eq_true rfl) (jroom (by decide)) rfl (m_within (by omega) (by omega) (by omega) (fun w49 => ?_) (fun w49 => ?_))
                              · dsimp only [jpush]
                                (try simp (disch := omega) only [jset_k, jset_j, jset_same, true_and, and_true] at w49)
                                first
                                 | (exfalso; omega)
                                 | (skip
                                    refine e_if_ne 55 58 dX12_kind_52 (by decide) (by decide) rfl (fun _ => ?_) (fun h => absurd h (by decide))
                                    refine e_aload_n (i := 0) 59 dX12_kind_58 rfl rfl rfl ?_
                                    refine e_getr (j := 1) 62 fl_12_13 dX12_kind_59 at_928 rfl rfl tp_928_1 rfl ?_
                                    refine e_sipush 65 dX12_kind_62 (by decide) rfl ?_
                                    refine e_iald 66 dX12_kind_65 ar_929 (by decide) (by decide) rfl (fun r65 => ?_)
                                    simp (disch := omega) only [jset_k, jset_j, jset_same, true_and, and_true] at r65 ⊢
                                    refine e_istore (lsn := [(6, _), (0, _), (1, _), (2, _), (3, _), (4, _), (5, _)]) 68 dX12_kind_66 (by decide) rfl rfl ?_
                                    refine e_iload 70 dX12_kind_68 rfl rfl ?_
                                    refine e_bipush 72 dX12_kind_70 (by decide) rfl ?_
                                    refine e_icmp_ne 75 78 dX12_kind_72 (by omega) (by decide) (by decide) rfl (fun b72 => ?_) (fun b72 => ?_)
                                    · first
                                       | (exfalso; omega)
                                       | (skip
                                          refine e_aload_n (i := 0) 79 dX12_kind_78 rfl rfl rfl ?_
                                          refine e_getr (j := 1) 82 fl_12_13 dX12_kind_79 at_928 rfl rfl tp_928_1 rfl ?_
                                          refine e_sipush 85 dX12_kind_82 (by decide) rfl ?_
                                          refine e_iload 87 dX12_kind_85 rfl rfl ?_
                                          refine e_iadd 88 dX12_kind_87 rfl ?_
                                          refine e_iload_n (i := 1) 89 dX12_kind_88 rfl rfl rfl ?_
                                          refine e_iast 90 dX12_kind_89 ar_929 (by omega) (by omega) (by omega) rfl ?_
                                          refine e_aload_n (i := 0) 91 dX12_kind_90 rfl rfl rfl ?_
                                          refine e_getr (j := 1) 94 fl_12_13 dX12_kind_91 at_928 rfl rfl tp_928_1 rfl ?_
                                          refine e_sipush 97 dX12_kind_94 (by decide) rfl ?_
                                          refine e_iload 99 dX12_kind_97 rfl rfl ?_
                                          refine e_iadd 100 dX12_kind_99 rfl ?_
                                          refine e_iload_n (i := 2) 101 dX12_kind_100 rfl rfl rfl ?_
                                          refine e_iast 102 dX12_kind_101 ar_929 (by omega) (by omega) (by omega) rfl ?_
                                          refine e_aload_n (i := 0) 103 dX12_kind_102 rfl rfl rfl ?_
                                          refine e_getr (j := 1) 106 fl_12_13 dX12_kind_103 at_928 rfl rfl tp_928_1 rfl ?_
                                          refine e_sipush 109 dX12_kind_106 (by decide) rfl ?_
                                          refine e_iload 111 dX12_kind_109 rfl rfl ?_
                                          refine e_iadd 112 dX12_kind_111 rfl ?_
                                          refine e_iload_n (i := 3) 113 dX12_kind_112 rfl rfl rfl ?_
                                          refine e_iast 114 dX12_kind_113 ar_929 (by omega) (by omega) (by omega) rfl ?_
                                          refine e_aload_n (i := 0) 115 dX12_kind_114 rfl rfl rfl ?_
                                          refine e_getr (j := 1) 118 fl_12_13 dX12_kind_115 at_928 rfl rfl tp_928_1 rfl ?_
                                          refine e_sipush 121 dX12_kind_118 (by decide) rfl ?_
                                          refine e_iload 123 dX12_kind_121 rfl rfl ?_
                                          refine e_iadd 124 dX12_kind_123 rfl ?_
                                          refine e_iload 126 dX12_kind_124 rfl rfl ?_
                                          refine e_iast 127 dX12_kind_126 ar_929 (by omega) (by omega) (by omega) rfl ?_
                                          refine e_aload_n (i := 0) 128 dX12_kind_127 rfl rfl rfl ?_
                                          refine e_getr (j := 1) 131 fl_12_13 dX12_kind_128 at_928 rfl rfl tp_928_1 rfl ?_
                                          refine e_sipush 134 dX12_kind_131 (by decide) rfl ?_
                                          refine e_iload 136 dX12_kind_134 rfl rfl ?_
                                          refine e_iadd 137 dX12_kind_136 rfl ?_
                                          refine e_iload 139 dX12_kind_137 rfl rfl ?_
                                          refine e_if_eq 142 146 dX12_kind_139 (by omega) (by decide) rfl (fun b139 => ?_) (fun b139 => ?_)
                                          · first
                                             | (exfalso; omega)
                                             | (skip
                                                refine e_iconst 147 dX12_kind_146 rfl ?_
                                                refine e_iast 148 dX12_kind_147 ar_929 (by omega) (by omega) (by decide) rfl ?_
                                                refine e_aload_n (i := 0) 149 dX12_kind_148 rfl rfl rfl ?_
                                                refine e_getr (j := 1) 152 fl_12_13 dX12_kind_149 at_928 rfl rfl tp_928_1 rfl ?_
                                                refine e_sipush 155 dX12_kind_152 (by decide) rfl ?_
                                                refine e_dup2 156 dX12_kind_155 rfl rfl rfl ?_
                                                refine e_iald 157 dX12_kind_156 ar_929 (by decide) (by decide) rfl (fun r156 => ?_)
                                                simp (disch := omega) only [jset_k, jset_j, jset_same, true_and, and_true] at r156 ⊢
                                                refine e_iconst 158 dX12_kind_157 rfl ?_
                                                refine e_iadd 159 dX12_kind_158 rfl ?_
                                                refine e_iast 160 dX12_kind_159 ar_929 (by decide) (by decide) (by omega) rfl ?_
                                                refine e_iload 162 dX12_kind_160 rfl rfl ?_
                                                refine e_iret dX12_kind_162 ?_
                                                first
                                                  | (exact ⟨by omega, hI⟩)
                                                  | (exfalso; omega)
                                                  | (refine ⟨by omega, ?_⟩
                                                     simp only [hn.1]
                                                     refine hI.live ?_ ?_ ?_
                                                     · repeat (first | exact Live.rf | refine Live.c ?_ (by omega) | refine Live.r ?_ (by omega) | refine Live.s ?_ (by omega))
                                                     · refine ⟨?_, ?_, ?_, ?_, ?_, ?_, ?_, ?_, ?_, ?_, ?_⟩
                                                       · have h := hI.2.1.1
                                                         unfold RCnt at h ⊢
                                                         simp (disch := omega) only [jset_k, jset_j, jset_same, true_and, and_true]
                                                         omega
                                                       · exact hI.2.1.2.1.fr (fun i a b => by simp (disch := omega) only [jset_k, jset_j, jset_same, true_and, and_true])
                                                       · exact hI.2.1.2.2.1.fr (fun i a b => by simp (disch := omega) only [jset_k, jset_j, jset_same, true_and, and_true])
                                                       · intro k h0 h1
                                                         simp (disch := omega) only [jset_k, jset_j, jset_same, true_and, and_true] at h1
                                                         by_cases e : k < M 929 582
                                                         · have h := hI.2.1.2.2.2.1 k h0 e
                                                           simp (disch := omega) only [jset_k, jset_j, jset_same, true_and, and_true]
                                                           exact h
                                                         · have e2 : k = M 929 582 := by omega
                                                           subst e2
                                                           simp (disch := omega) only [jset_k, jset_j, jset_same, true_and, and_true]
                                                           omega
                                                       · exact hI.2.1.2.2.2.2.1.fr (by omega) (fun i a b => by simp (disch := omega) only [jset_k, jset_j, jset_same, true_and, and_true]) (fun i a b => by simp (disch := omega) only [jset_k, jset_j, jset_same, true_and, and_true])
                                                       · exact hI.2.1.2.2.2.2.2.1.fr (by omega) (fun i a b => by simp (disch := omega) only [jset_k, jset_j, jset_same, true_and, and_true]) (fun i a b => by simp (disch := omega) only [jset_k, jset_j, jset_same, true_and, and_true]) (by simp (disch := omega) only [jset_k, jset_j, jset_same, true_and, and_true]; omega)
                                                       · exact hI.2.1.2.2.2.2.2.2.1.fr (by omega) (by simp (disch := omega) only [jset_k, jset_j, jset_same, true_and, and_true]) (fun i a b => by simp (disch := omega) only [jset_k, jset_j, jset_same, true_and, and_true])
                                                       · exact hI.2.1.2.2.2.2.2.2.2.1.fr (by omega) (fun i a b => by simp (disch := omega) only [jset_k, jset_j, jset_same, true_and, and_true]) (fun i a b => by simp (disch := omega) only [jset_k, jset_j, jset_same, true_and, and_true]) (by simp (disch := omega) only [jset_k, jset_j, jset_same, true_and, and_true]; omega)
                                                       · exact hI.2.1.2.2.2.2.2.2.2.2.1.fr (by omega) (fun i a b => by simp (disch := omega) only [jset_k, jset_j, jset_same, true_and, and_true])
                                                       · exact hI.2.1.2.2.2.2.2.2.2.2.2.1.fr (fun i a b => by simp (disch := omega) only [jset_k, jset_j, jset_same, true_and, and_true])
                                                       · exact hI.2.1.2.2.2.2.2.2.2.2.2.2.fr (fun i a b => by simp (disch := omega) only [jset_k, jset_j, jset_same, true_and, and_true])
                                                     · refine ⟨?_, ?_, ?_, ?_, ?_, ?_, ?_, ?_, ?_, ?_, ?_, ?_⟩
                                                       · have h := hC.cnt
                                                         unfold CCnt cv
                                                         simp (disch := omega) only [jset_k, jset_j, jset_same, true_and, and_true, Int.reduceAdd]
                                                         first | omega | exact h
                                                       · exact hI.2.2.1.2.1.fr hI.2.1.2.1 (by omega) (fun k j a b => by show _ = M (1 + k) j; unfold cv; simp (disch := omega) only [jset_k, jset_j, jset_same, true_and, and_true]) (fun i a b => by simp (disch := omega) only [jset_k, jset_j, jset_same, true_and, and_true])
                                                       · exact hI.2.2.1.2.2.1.fr hI.2.1.2.2.1 (by omega) (fun k j a b => by show _ = M (1 + k) j; unfold cv; simp (disch := omega) only [jset_k, jset_j, jset_same, true_and, and_true]) (fun i a b => by simp (disch := omega) only [jset_k, jset_j, jset_same, true_and, and_true])
                                                       · intro k h0 h1
                                                         simp (disch := omega) only [jset_k, jset_j, jset_same, true_and, and_true] at h1
                                                         simp only [cv1, Int.reduceAdd]
                                                         by_cases e : k < M 929 582
                                                         · have h := (hC.kind h0 e).1
                                                           simp (disch := omega) only [jset_k, jset_j, jset_same, true_and, and_true]
                                                           exact h
                                                         · have e2 : k = M 929 582 := by omega
                                                           subst e2
                                                           simp (disch := omega) only [jset_k, jset_j, jset_same, true_and, and_true]
                                                           all_goals (first | omega | simp)
                                                       · exact hI.2.2.1.2.2.2.2.1.fr (by omega) (fun k j a b => by show _ = M (1 + k) j; unfold cv; simp (disch := omega) only [jset_k, jset_j, jset_same, true_and, and_true]) (fun i a b => by simp (disch := omega) only [jset_k, jset_j, jset_same, true_and, and_true]) (fun i a b => by simp (disch := omega) only [jset_k, jset_j, jset_same, true_and, and_true])
                                                       · exact hI.2.2.1.2.2.2.2.2.1.fr (by omega) (fun k j a b => by show _ = M (1 + k) j; unfold cv; simp (disch := omega) only [jset_k, jset_j, jset_same, true_and, and_true]) (fun i a b => by simp (disch := omega) only [jset_k, jset_j, jset_same, true_and, and_true]) (fun i a b => by simp (disch := omega) only [jset_k, jset_j, jset_same, true_and, and_true])
                                                       · exact hI.2.2.1.2.2.2.2.2.2.1.fr (by omega) (fun k j a b => by show _ = M (1 + k) j; unfold cv; simp (disch := omega) only [jset_k, jset_j, jset_same, true_and, and_true]) (fun i a b => by simp (disch := omega) only [jset_k, jset_j, jset_same, true_and, and_true]) (fun i a b => by simp (disch := omega) only [jset_k, jset_j, jset_same, true_and, and_true])
                                                       · exact hI.2.2.1.2.2.2.2.2.2.2.1.fr (by omega) (fun k j a b => by show _ = M (1 + k) j; unfold cv; simp (disch := omega) only [jset_k, jset_j, jset_same, true_and, and_true]) (fun i a b => by simp (disch := omega) only [jset_k, jset_j, jset_same, true_and, and_true])
                                                       · exact hI.2.2.1.2.2.2.2.2.2.2.2.1.fr (fun k j a b => by show _ = M (1 + k) j; unfold cv; simp (disch := omega) only [jset_k, jset_j, jset_same, true_and, and_true]) (fun i a b => by simp (disch := omega) only [jset_k, jset_j, jset_same, true_and, and_true])
                                                       · exact hI.2.2.1.2.2.2.2.2.2.2.2.2.1.fr (fun k j a b => by show _ = M (1 + k) j; unfold cv; simp (disch := omega) only [jset_k, jset_j, jset_same, true_and, and_true]) (fun i a b => by simp (disch := omega) only [jset_k, jset_j, jset_same, true_and, and_true])
                                                       · exact hI.2.2.1.2.2.2.2.2.2.2.2.2.2.1.fr (by omega) (fun k j a b => by show _ = M (1 + k) j; unfold cv; simp (disch := omega) only [jset_k, jset_j, jset_same, true_and, and_true]) (fun i a b => by simp (disch := omega) only [jset_k, jset_j, jset_same, true_and, and_true])
                                                       · exact hI.2.2.1.2.2.2.2.2.2.2.2.2.2.2.fr hI.2.1.2.2.2.2.2.2.2.2.2.2 (fun k j a b => by show _ = M (1 + k) j; unfold cv; simp (disch := omega) only [jset_k, jset_j, jset_same, true_and, and_true]) (fun i a b => by simp (disch := omega) only [jset_k, jset_j, jset_same, true_and, and_true])))
                                          · first
                                             | (exfalso; omega)
                                             | (skip
                                                refine e_iconst 143 dX12_kind_142 rfl ?_
                                                refine e_goto 147 dX12_kind_143 (by decide) ?_
                                                refine e_iast 148 dX12_kind_147 ar_929 (by omega) (by omega) (by decide) rfl ?_
                                                refine e_aload_n (i := 0) 149 dX12_kind_148 rfl rfl rfl ?_
                                                refine e_getr (j := 1) 152 fl_12_13 dX12_kind_149 at_928 rfl rfl tp_928_1 rfl ?_
                                                refine e_sipush 155 dX12_kind_152 (by decide) rfl ?_
                                                refine e_dup2 156 dX12_kind_155 rfl rfl rfl ?_
                                                refine e_iald 157 dX12_kind_156 ar_929 (by decide) (by decide) rfl (fun r156 => ?_)
                                                simp (disch := omega) only [jset_k, jset_j, jset_same, true_and, and_true] at r156 ⊢
                                                refine e_iconst 158 dX12_kind_157 rfl ?_
                                                refine e_iadd 159 dX12_kind_158 rfl ?_
                                                refine e_iast 160 dX12_kind_159 ar_929 (by decide) (by decide) (by omega) rfl ?_
                                                refine e_iload 162 dX12_kind_160 rfl rfl ?_
                                                refine e_iret dX12_kind_162 ?_
                                                first
                                                  | (exact ⟨by omega, hI⟩)
                                                  | (exfalso; omega)
                                                  | (refine ⟨by omega, ?_⟩
                                                     simp only [hn.1]
                                                     refine hI.live ?_ ?_ ?_
                                                     · repeat (first | exact Live.rf | refine Live.c ?_ (by omega) | refine Live.r ?_ (by omega) | refine Live.s ?_ (by omega))
                                                     · refine ⟨?_, ?_, ?_, ?_, ?_, ?_, ?_, ?_, ?_, ?_, ?_⟩
                                                       · have h := hI.2.1.1
                                                         unfold RCnt at h ⊢
                                                         simp (disch := omega) only [jset_k, jset_j, jset_same, true_and, and_true]
                                                         omega
                                                       · exact hI.2.1.2.1.fr (fun i a b => by simp (disch := omega) only [jset_k, jset_j, jset_same, true_and, and_true])
                                                       · exact hI.2.1.2.2.1.fr (fun i a b => by simp (disch := omega) only [jset_k, jset_j, jset_same, true_and, and_true])
                                                       · intro k h0 h1
                                                         simp (disch := omega) only [jset_k, jset_j, jset_same, true_and, and_true] at h1
                                                         by_cases e : k < M 929 582
                                                         · have h := hI.2.1.2.2.2.1 k h0 e
                                                           simp (disch := omega) only [jset_k, jset_j, jset_same, true_and, and_true]
                                                           exact h
                                                         · have e2 : k = M 929 582 := by omega
                                                           subst e2
                                                           simp (disch := omega) only [jset_k, jset_j, jset_same, true_and, and_true]
                                                           omega
                                                       · exact hI.2.1.2.2.2.2.1.fr (by omega) (fun i a b => by simp (disch := omega) only [jset_k, jset_j, jset_same, true_and, and_true]) (fun i a b => by simp (disch := omega) only [jset_k, jset_j, jset_same, true_and, and_true])
                                                       · exact hI.2.1.2.2.2.2.2.1.fr (by omega) (fun i a b => by simp (disch := omega) only [jset_k, jset_j, jset_same, true_and, and_true]) (fun i a b => by simp (disch := omega) only [jset_k, jset_j, jset_same, true_and, and_true]) (by simp (disch := omega) only [jset_k, jset_j, jset_same, true_and, and_true]; omega)
                                                       · exact hI.2.1.2.2.2.2.2.2.1.fr (by omega) (by simp (disch := omega) only [jset_k, jset_j, jset_same, true_and, and_true]) (fun i a b => by simp (disch := omega) only [jset_k, jset_j, jset_same, true_and, and_true])
                                                       · exact hI.2.1.2.2.2.2.2.2.2.1.fr (by omega) (fun i a b => by simp (disch := omega) only [jset_k, jset_j, jset_same, true_and, and_true]) (fun i a b => by simp (disch := omega) only [jset_k, jset_j, jset_same, true_and, and_true]) (by simp (disch := omega) only [jset_k, jset_j, jset_same, true_and, and_true]; omega)
                                                       · exact hI.2.1.2.2.2.2.2.2.2.2.1.fr (by omega) (fun i a b => by simp (disch := omega) only [jset_k, jset_j, jset_same, true_and, and_true])
                                                       · exact hI.2.1.2.2.2.2.2.2.2.2.2.1.fr (fun i a b => by simp (disch := omega) only [jset_k, jset_j, jset_same, true_and, and_true])
                                                       · exact hI.2.1.2.2.2.2.2.2.2.2.2.2.fr (fun i a b => by simp (disch := omega) only [jset_k, jset_j, jset_same, true_and, and_true])
                                                     · refine ⟨?_, ?_, ?_, ?_, ?_, ?_, ?_, ?_, ?_, ?_, ?_, ?_⟩
                                                       · have h := hC.cnt
                                                         unfold CCnt cv
                                                         simp (disch := omega) only [jset_k, jset_j, jset_same, true_and, and_true, Int.reduceAdd]
                                                         first | omega | exact h
                                                       · exact hI.2.2.1.2.1.fr hI.2.1.2.1 (by omega) (fun k j a b => by show _ = M (1 + k) j; unfold cv; simp (disch := omega) only [jset_k, jset_j, jset_same, true_and, and_true]) (fun i a b => by simp (disch := omega) only [jset_k, jset_j, jset_same, true_and, and_true])
                                                       · exact hI.2.2.1.2.2.1.fr hI.2.1.2.2.1 (by omega) (fun k j a b => by show _ = M (1 + k) j; unfold cv; simp (disch := omega) only [jset_k, jset_j, jset_same, true_and, and_true]) (fun i a b => by simp (disch := omega) only [jset_k, jset_j, jset_same, true_and, and_true])
                                                       · intro k h0 h1
                                                         simp (disch := omega) only [jset_k, jset_j, jset_same, true_and, and_true] at h1
                                                         simp only [cv1, Int.reduceAdd]
                                                         by_cases e : k < M 929 582
                                                         · have h := (hC.kind h0 e).1
                                                           simp (disch := omega) only [jset_k, jset_j, jset_same, true_and, and_true]
                                                           exact h
                                                         · have e2 : k = M 929 582 := by omega
                                                           subst e2
                                                           simp (disch := omega) only [jset_k, jset_j, jset_same, true_and, and_true]
                                                           all_goals (first | omega | simp)
                                                       · exact hI.2.2.1.2.2.2.2.1.fr (by omega) (fun k j a b => by show _ = M (1 + k) j; unfold cv; simp (disch := omega) only [jset_k, jset_j, jset_same, true_and, and_true]) (fun i a b => by simp (disch := omega) only [jset_k, jset_j, jset_same, true_and, and_true]) (fun i a b => by simp (disch := omega) only [jset_k, jset_j, jset_same, true_and, and_true])
                                                       · exact hI.2.2.1.2.2.2.2.2.1.fr (by omega) (fun k j a b => by show _ = M (1 + k) j; unfold cv; simp (disch := omega) only [jset_k, jset_j, jset_same, true_and, and_true]) (fun i a b => by simp (disch := omega) only [jset_k, jset_j, jset_same, true_and, and_true]) (fun i a b => by simp (disch := omega) only [jset_k, jset_j, jset_same, true_and, and_true])
                                                       · exact hI.2.2.1.2.2.2.2.2.2.1.fr (by omega) (fun k j a b => by show _ = M (1 + k) j; unfold cv; simp (disch := omega) only [jset_k, jset_j, jset_same, true_and, and_true]) (fun i a b => by simp (disch := omega) only [jset_k, jset_j, jset_same, true_and, and_true]) (fun i a b => by simp (disch := omega) only [jset_k, jset_j, jset_same, true_and, and_true])
                                                       · exact hI.2.2.1.2.2.2.2.2.2.2.1.fr (by omega) (fun k j a b => by show _ = M (1 + k) j; unfold cv; simp (disch := omega) only [jset_k, jset_j, jset_same, true_and, and_true]) (fun i a b => by simp (disch := omega) only [jset_k, jset_j, jset_same, true_and, and_true])
                                                       · exact hI.2.2.1.2.2.2.2.2.2.2.2.1.fr (fun k j a b => by show _ = M (1 + k) j; unfold cv; simp (disch := omega) only [jset_k, jset_j, jset_same, true_and, and_true]) (fun i a b => by simp (disch := omega) only [jset_k, jset_j, jset_same, true_and, and_true])
                                                       · exact hI.2.2.1.2.2.2.2.2.2.2.2.2.1.fr (fun k j a b => by show _ = M (1 + k) j; unfold cv; simp (disch := omega) only [jset_k, jset_j, jset_same, true_and, and_true]) (fun i a b => by simp (disch := omega) only [jset_k, jset_j, jset_same, true_and, and_true])
                                                       · exact hI.2.2.1.2.2.2.2.2.2.2.2.2.2.1.fr (by omega) (fun k j a b => by show _ = M (1 + k) j; unfold cv; simp (disch := omega) only [jset_k, jset_j, jset_same, true_and, and_true]) (fun i a b => by simp (disch := omega) only [jset_k, jset_j, jset_same, true_and, and_true])
                                                       · exact hI.2.2.1.2.2.2.2.2.2.2.2.2.2.2.fr hI.2.1.2.2.2.2.2.2.2.2.2.2 (fun k j a b => by show _ = M (1 + k) j; unfold cv; simp (disch := omega) only [jset_k, jset_j, jset_same, true_and, and_true]) (fun i a b => by simp (disch := omega) only [jset_k, jset_j, jset_same, true_and, and_true]))))
                                    · first
                                       | (exfalso; omega)
                                       | (skip
                                          refine e_bipush 77 dX12_kind_75 (by decide) rfl ?_
                                          refine e_iret dX12_kind_77 ?_
                                          first
                                            | (exact ⟨by omega, hI⟩)
                                            | (exfalso; omega)
                                            | (refine ⟨by omega, ?_⟩
                                               simp only [hn.1]
                                               refine hI.live ?_ ?_ ?_
                                               · repeat (first | exact Live.rf | refine Live.c ?_ (by omega) | refine Live.r ?_ (by omega) | refine Live.s ?_ (by omega))
                                               · refine ⟨?_, ?_, ?_, ?_, ?_, ?_, ?_, ?_, ?_, ?_, ?_⟩
                                                 · have h := hI.2.1.1
                                                   unfold RCnt at h ⊢
                                                   simp (disch := omega) only [jset_k, jset_j, jset_same, true_and, and_true]
                                                   omega
                                                 · exact hI.2.1.2.1.fr (fun i a b => by simp (disch := omega) only [jset_k, jset_j, jset_same, true_and, and_true])
                                                 · exact hI.2.1.2.2.1.fr (fun i a b => by simp (disch := omega) only [jset_k, jset_j, jset_same, true_and, and_true])
                                                 · intro k h0 h1
                                                   simp (disch := omega) only [jset_k, jset_j, jset_same, true_and, and_true] at h1
                                                   by_cases e : k < M 929 582
                                                   · have h := hI.2.1.2.2.2.1 k h0 e
                                                     simp (disch := omega) only [jset_k, jset_j, jset_same, true_and, and_true]
                                                     exact h
                                                   · have e2 : k = M 929 582 := by omega
                                                     subst e2
                                                     simp (disch := omega) only [jset_k, jset_j, jset_same, true_and, and_true]
                                                     omega
                                                 · exact hI.2.1.2.2.2.2.1.fr (by omega) (fun i a b => by simp (disch := omega) only [jset_k, jset_j, jset_same, true_and, and_true]) (fun i a b => by simp (disch := omega) only [jset_k, jset_j, jset_same, true_and, and_true])
                                                 · exact hI.2.1.2.2.2.2.2.1.fr (by omega) (fun i a b => by simp (disch := omega) only [jset_k, jset_j, jset_same, true_and, and_true]) (fun i a b => by simp (disch := omega) only [jset_k, jset_j, jset_same, true_and, and_true]) (by simp (disch := omega) only [jset_k, jset_j, jset_same, true_and, and_true]; omega)
                                                 · exact hI.2.1.2.2.2.2.2.2.1.fr (by omega) (by simp (disch := omega) only [jset_k, jset_j, jset_same, true_and, and_true]) (fun i a b => by simp (disch := omega) only [jset_k, jset_j, jset_same, true_and, and_true])
                                                 · exact hI.2.1.2.2.2.2.2.2.2.1.fr (by omega) (fun i a b => by simp (disch := omega) only [jset_k, jset_j, jset_same, true_and, and_true]) (fun i a b => by simp (disch := omega) only [jset_k, jset_j, jset_same, true_and, and_true]) (by simp (disch := omega) only [jset_k, jset_j, jset_same, true_and, and_true]; omega)
                                                 · exact hI.2.1.2.2.2.2.2.2.2.2.1.fr (by omega) (fun i a b => by simp (disch := omega) only [jset_k, jset_j, jset_same, true_and, and_true])
                                                 · exact hI.2.1.2.2.2.2.2.2.2.2.2.1.fr (fun i a b => by simp (disch := omega) only [jset_k, jset_j, jset_same, true_and, and_true])
                                                 · exact hI.2.1.2.2.2.2.2.2.2.2.2.2.fr (fun i a b => by simp (disch := omega) only [jset_k, jset_j, jset_same, true_and, and_true])
                                               · refine ⟨?_, ?_, ?_, ?_, ?_, ?_, ?_, ?_, ?_, ?_, ?_, ?_⟩
                                                 · have h := hC.cnt
                                                   unfold CCnt cv
                                                   simp (disch := omega) only [jset_k, jset_j, jset_same, true_and, and_true, Int.reduceAdd]
                                                   first | omega | exact h
                                                 · exact hI.2.2.1.2.1.fr hI.2.1.2.1 (by omega) (fun k j a b => by show _ = M (1 + k) j; unfold cv; simp (disch := omega) only [jset_k, jset_j, jset_same, true_and, and_true]) (fun i a b => by simp (disch := omega) only [jset_k, jset_j, jset_same, true_and, and_true])
                                                 · exact hI.2.2.1.2.2.1.fr hI.2.1.2.2.1 (by omega) (fun k j a b => by show _ = M (1 + k) j; unfold cv; simp (disch := omega) only [jset_k, jset_j, jset_same, true_and, and_true]) (fun i a b => by simp (disch := omega) only [jset_k, jset_j, jset_same, true_and, and_true])
                                                 · intro k h0 h1
                                                   simp (disch := omega) only [jset_k, jset_j, jset_same, true_and, and_true] at h1
                                                   simp only [cv1, Int.reduceAdd]
                                                   by_cases e : k < M 929 582
                                                   · have h := (hC.kind h0 e).1
                                                     simp (disch := omega) only [jset_k, jset_j, jset_same, true_and, and_true]
                                                     exact h
                                                   · have e2 : k = M 929 582 := by omega
                                                     subst e2
                                                     simp (disch := omega) only [jset_k, jset_j, jset_same, true_and, and_true]
                                                     all_goals (first | omega | simp)
                                                 · exact hI.2.2.1.2.2.2.2.1.fr (by omega) (fun k j a b => by show _ = M (1 + k) j; unfold cv; simp (disch := omega) only [jset_k, jset_j, jset_same, true_and, and_true]) (fun i a b => by simp (disch := omega) only [jset_k, jset_j, jset_same, true_and, and_true]) (fun i a b => by simp (disch := omega) only [jset_k, jset_j, jset_same, true_and, and_true])
                                                 · exact hI.2.2.1.2.2.2.2.2.1.fr (by omega) (fun k j a b => by show _ = M (1 + k) j; unfold cv; simp (disch := omega) only [jset_k, jset_j, jset_same, true_and, and_true]) (fun i a b => by simp (disch := omega) only [jset_k, jset_j, jset_same, true_and, and_true]) (fun i a b => by simp (disch := omega) only [jset_k, jset_j, jset_same, true_and, and_true])
                                                 · exact hI.2.2.1.2.2.2.2.2.2.1.fr (by omega) (fun k j a b => by show _ = M (1 + k) j; unfold cv; simp (disch := omega) only [jset_k, jset_j, jset_same, true_and, and_true]) (fun i a b => by simp (disch := omega) only [jset_k, jset_j, jset_same, true_and, and_true]) (fun i a b => by simp (disch := omega) only [jset_k, jset_j, jset_same, true_and, and_true])
                                                 · exact hI.2.2.1.2.2.2.2.2.2.2.1.fr (by omega) (fun k j a b => by show _ = M (1 + k) j; unfold cv; simp (disch := omega) only [jset_k, jset_j, jset_same, true_and, and_true]) (fun i a b => by simp (disch := omega) only [jset_k, jset_j, jset_same, true_and, and_true])
                                                 · exact hI.2.2.1.2.2.2.2.2.2.2.2.1.fr (fun k j a b => by show _ = M (1 + k) j; unfold cv; simp (disch := omega) only [jset_k, jset_j, jset_same, true_and, and_true]) (fun i a b => by simp (disch := omega) only [jset_k, jset_j, jset_same, true_and, and_true])
                                                 · exact hI.2.2.1.2.2.2.2.2.2.2.2.2.1.fr (fun k j a b => by show _ = M (1 + k) j; unfold cv; simp (disch := omega) only [jset_k, jset_j, jset_same, true_and, and_true]) (fun i a b => by simp (disch := omega) only [jset_k, jset_j, jset_same, true_and, and_true])
                                                 · exact hI.2.2.1.2.2.2.2.2.2.2.2.2.2.1.fr (by omega) (fun k j a b => by show _ = M (1 + k) j; unfold cv; simp (disch := omega) only [jset_k, jset_j, jset_same, true_and, and_true]) (fun i a b => by simp (disch := omega) only [jset_k, jset_j, jset_same, true_and, and_true])
                                                 · exact hI.2.2.1.2.2.2.2.2.2.2.2.2.2.2.fr hI.2.1.2.2.2.2.2.2.2.2.2.2 (fun k j a b => by show _ = M (1 + k) j; unfold cv; simp (disch := omega) only [jset_k, jset_j, jset_same, true_and, and_true]) (fun i a b => by simp (disch := omega) only [jset_k, jset_j, jset_same, true_and, and_true]))))
                              · dsimp only [jpush]
                                (try simp (disch := omega) only [jset_k, jset_j, jset_same, true_and, and_true] at w49)
                                first
                                 | (exfalso; omega)
                                 | (skip
                                    refine e_if_ne 55 58 dX12_kind_52 (by decide) (by decide) rfl (fun h => absurd h (by decide)) (fun _ => ?_)
                                    refine e_bipush 57 dX12_kind_55 (by decide) rfl ?_
                                    refine e_iret dX12_kind_57 ?_
                                    first
                                      | (exact ⟨by omega, hI⟩)
                                      | (exfalso; omega)
                                      | (refine ⟨by omega, ?_⟩
                                         simp only [hn.1]
                                         refine hI.live ?_ ?_ ?_
                                         · repeat (first | exact Live.rf | refine Live.c ?_ (by omega) | refine Live.r ?_ (by omega) | refine Live.s ?_ (by omega))
                                         · refine ⟨?_, ?_, ?_, ?_, ?_, ?_, ?_, ?_, ?_, ?_, ?_⟩
                                           · have h := hI.2.1.1
                                             unfold RCnt at h ⊢
                                             simp (disch := omega) only [jset_k, jset_j, jset_same, true_and, and_true]
                                             omega
                                           · exact hI.2.1.2.1.fr (fun i a b => by simp (disch := omega) only [jset_k, jset_j, jset_same, true_and, and_true])
                                           · exact hI.2.1.2.2.1.fr (fun i a b => by simp (disch := omega) only [jset_k, jset_j, jset_same, true_and, and_true])
                                           · intro k h0 h1
                                             simp (disch := omega) only [jset_k, jset_j, jset_same, true_and, and_true] at h1
                                             by_cases e : k < M 929 582
                                             · have h := hI.2.1.2.2.2.1 k h0 e
                                               simp (disch := omega) only [jset_k, jset_j, jset_same, true_and, and_true]
                                               exact h
                                             · have e2 : k = M 929 582 := by omega
                                               subst e2
                                               simp (disch := omega) only [jset_k, jset_j, jset_same, true_and, and_true]
                                               omega
                                           · exact hI.2.1.2.2.2.2.1.fr (by omega) (fun i a b => by simp (disch := omega) only [jset_k, jset_j, jset_same, true_and, and_true]) (fun i a b => by simp (disch := omega) only [jset_k, jset_j, jset_same, true_and, and_true])
                                           · exact hI.2.1.2.2.2.2.2.1.fr (by omega) (fun i a b => by simp (disch := omega) only [jset_k, jset_j, jset_same, true_and, and_true]) (fun i a b => by simp (disch := omega) only [jset_k, jset_j, jset_same, true_and, and_true]) (by simp (disch := omega) only [jset_k, jset_j, jset_same, true_and, and_true]; omega)
                                           · exact hI.2.1.2.2.2.2.2.2.1.fr (by omega) (by simp (disch := omega) only [jset_k, jset_j, jset_same, true_and, and_true]) (fun i a b => by simp (disch := omega) only [jset_k, jset_j, jset_same, true_and, and_true])
                                           · exact hI.2.1.2.2.2.2.2.2.2.1.fr (by omega) (fun i a b => by simp (disch := omega) only [jset_k, jset_j, jset_same, true_and, and_true]) (fun i a b => by simp (disch := omega) only [jset_k, jset_j, jset_same, true_and, and_true]) (by simp (disch := omega) only [jset_k, jset_j, jset_same, true_and, and_true]; omega)
                                           · exact hI.2.1.2.2.2.2.2.2.2.2.1.fr (by omega) (fun i a b => by simp (disch := omega) only [jset_k, jset_j, jset_same, true_and, and_true])
                                           · exact hI.2.1.2.2.2.2.2.2.2.2.2.1.fr (fun i a b => by simp (disch := omega) only [jset_k, jset_j, jset_same, true_and, and_true])
                                           · exact hI.2.1.2.2.2.2.2.2.2.2.2.2.fr (fun i a b => by simp (disch := omega) only [jset_k, jset_j, jset_same, true_and, and_true])
                                         · refine ⟨?_, ?_, ?_, ?_, ?_, ?_, ?_, ?_, ?_, ?_, ?_, ?_⟩
                                           · have h := hC.cnt
                                             unfold CCnt cv
                                             simp (disch := omega) only [jset_k, jset_j, jset_same, true_and, and_true, Int.reduceAdd]
                                             first | omega | exact h
                                           · exact hI.2.2.1.2.1.fr hI.2.1.2.1 (by omega) (fun k j a b => by show _ = M (1 + k) j; unfold cv; simp (disch := omega) only [jset_k, jset_j, jset_same, true_and, and_true]) (fun i a b => by simp (disch := omega) only [jset_k, jset_j, jset_same, true_and, and_true])
                                           · exact hI.2.2.1.2.2.1.fr hI.2.1.2.2.1 (by omega) (fun k j a b => by show _ = M (1 + k) j; unfold cv; simp (disch := omega) only [jset_k, jset_j, jset_same, true_and, and_true]) (fun i a b => by simp (disch := omega) only [jset_k, jset_j, jset_same, true_and, and_true])
                                           · intro k h0 h1
                                             simp (disch := omega) only [jset_k, jset_j, jset_same, true_and, and_true] at h1
                                             simp only [cv1, Int.reduceAdd]
                                             by_cases e : k < M 929 582
                                             · have h := (hC.kind h0 e).1
                                               simp (disch := omega) only [jset_k, jset_j, jset_same, true_and, and_true]
                                               exact h
                                             · have e2 : k = M 929 582 := by omega
                                               subst e2
                                               simp (disch := omega) only [jset_k, jset_j, jset_same, true_and, and_true]
                                               all_goals (first | omega | simp)
                                           · exact hI.2.2.1.2.2.2.2.1.fr (by omega) (fun k j a b => by show _ = M (1 + k) j; unfold cv; simp (disch := omega) only [jset_k, jset_j, jset_same, true_and, and_true]) (fun i a b => by simp (disch := omega) only [jset_k, jset_j, jset_same, true_and, and_true]) (fun i a b => by simp (disch := omega) only [jset_k, jset_j, jset_same, true_and, and_true])
                                           · exact hI.2.2.1.2.2.2.2.2.1.fr (by omega) (fun k j a b => by show _ = M (1 + k) j; unfold cv; simp (disch := omega) only [jset_k, jset_j, jset_same, true_and, and_true]) (fun i a b => by simp (disch := omega) only [jset_k, jset_j, jset_same, true_and, and_true]) (fun i a b => by simp (disch := omega) only [jset_k, jset_j, jset_same, true_and, and_true])
                                           · exact hI.2.2.1.2.2.2.2.2.2.1.fr (by omega) (fun k j a b => by show _ = M (1 + k) j; unfold cv; simp (disch := omega) only [jset_k, jset_j, jset_same, true_and, and_true]) (fun i a b => by simp (disch := omega) only [jset_k, jset_j, jset_same, true_and, and_true]) (fun i a b => by simp (disch := omega) only [jset_k, jset_j, jset_same, true_and, and_true])
                                           · exact hI.2.2.1.2.2.2.2.2.2.2.1.fr (by omega) (fun k j a b => by show _ = M (1 + k) j; unfold cv; simp (disch := omega) only [jset_k, jset_j, jset_same, true_and, and_true]) (fun i a b => by simp (disch := omega) only [jset_k, jset_j, jset_same, true_and, and_true])
                                           · exact hI.2.2.1.2.2.2.2.2.2.2.2.1.fr (fun k j a b => by show _ = M (1 + k) j; unfold cv; simp (disch := omega) only [jset_k, jset_j, jset_same, true_and, and_true]) (fun i a b => by simp (disch := omega) only [jset_k, jset_j, jset_same, true_and, and_true])
                                           · exact hI.2.2.1.2.2.2.2.2.2.2.2.2.1.fr (fun k j a b => by show _ = M (1 + k) j; unfold cv; simp (disch := omega) only [jset_k, jset_j, jset_same, true_and, and_true]) (fun i a b => by simp (disch := omega) only [jset_k, jset_j, jset_same, true_and, and_true])
                                           · exact hI.2.2.1.2.2.2.2.2.2.2.2.2.2.1.fr (by omega) (fun k j a b => by show _ = M (1 + k) j; unfold cv; simp (disch := omega) only [jset_k, jset_j, jset_same, true_and, and_true]) (fun i a b => by simp (disch := omega) only [jset_k, jset_j, jset_same, true_and, and_true])
                                           · exact hI.2.2.1.2.2.2.2.2.2.2.2.2.2.2.fr hI.2.1.2.2.2.2.2.2.2.2.2.2 (fun k j a b => by show _ = M (1 + k) j; unfold cv; simp (disch := omega) only [jset_k, jset_j, jset_same, true_and, and_true]) (fun i a b => by simp (disch := omega) only [jset_k, jset_j, jset_same, true_and, and_true]))))
                        · dsimp only [jpush]
                          (try simp (disch := omega) only [jset_k, jset_j, jset_same, true_and, and_true] at w36)
                          first
                           | (exfalso; omega)
                           | (skip
                              refine e_if_eq 42 55 dX12_kind_39 (by decide) (by decide) rfl (fun _ => ?_) (fun h => absurd h (by decide))
                              refine e_bipush 57 dX12_kind_55 (by decide) rfl ?_
                              refine e_iret dX12_kind_57 ?_
                              first
                                | (exact ⟨by omega, hI⟩)
                                | (exfalso; omega)
                                | (refine ⟨by omega, ?_⟩
                                   simp only [hn.1]
                                   refine hI.live ?_ ?_ ?_
                                   · repeat (first | exact Live.rf | refine Live.c ?_ (by omega) | refine Live.r ?_ (by omega) | refine Live.s ?_ (by omega))
                                   · refine ⟨?_, ?_, ?_, ?_, ?_, ?_, ?_, ?_, ?_, ?_, ?_⟩
                                     · have h := hI.2.1.1
                                       unfold RCnt at h ⊢
                                       simp (disch := omega) only [jset_k, jset_j, jset_same, true_and, and_true]
                                       omega
                                     · exact hI.2.1.2.1.fr (fun i a b => by simp (disch := omega) only [jset_k, jset_j, jset_same, true_and, and_true])
                                     · exact hI.2.1.2.2.1.fr (fun i a b => by simp (disch := omega) only [jset_k, jset_j, jset_same, true_and, and_true])
                                     · intro k h0 h1
                                       simp (disch := omega) only [jset_k, jset_j, jset_same, true_and, and_true] at h1
                                       by_cases e : k < M 929 582
                                       · have h := hI.2.1.2.2.2.1 k h0 e
                                         simp (disch := omega) only [jset_k, jset_j, jset_same, true_and, and_true]
                                         exact h
                                       · have e2 : k = M 929 582 := by omega
                                         subst e2
                                         simp (disch := omega) only [jset_k, jset_j, jset_same, true_and, and_true]
                                         omega
                                     · exact hI.2.1.2.2.2.2.1.fr (by omega) (fun i a b => by simp (disch := omega) only [jset_k, jset_j, jset_same, true_and, and_true]) (fun i a b => by simp (disch := omega) only [jset_k, jset_j, jset_same, true_and, and_true])
                                     · exact hI.2.1.2.2.2.2.2.1.fr (by omega) (fun i a b => by simp (disch := omega) only [jset_k, jset_j, jset_same, true_and, and_true]) (fun i a b => by simp (disch := omega) only [jset_k, jset_j, jset_same, true_and, and_true]) (by simp (disch := omega) only [jset_k, jset_j, jset_same, true_and, and_true]; omega)
                                     · exact hI.2.1.2.2.2.2.2.2.1.fr (by omega) (by simp (disch := omega) only [jset_k, jset_j, jset_same, true_and, and_true]) (fun i a b => by simp (disch := omega) only [jset_k, jset_j, jset_same, true_and, and_true])
                                     · exact hI.2.1.2.2.2.2.2.2.2.1.fr (by omega) (fun i a b => by simp (disch := omega) only [jset_k, jset_j, jset_same, true_and, and_true]) (fun i a b => by simp (disch := omega) only [jset_k, jset_j, jset_same, true_and, and_true]) (by simp (disch := omega) only [jset_k, jset_j, jset_same, true_and, and_true]; omega)
                                     · exact hI.2.1.2.2.2.2.2.2.2.2.1.fr (by omega) (fun i a b => by simp (disch := omega) only [jset_k, jset_j, jset_same, true_and, and_true])
                                     · exact hI.2.1.2.2.2.2.2.2.2.2.2.1.fr (fun i a b => by simp (disch := omega) only [jset_k, jset_j, jset_same, true_and, and_true])
                                     · exact hI.2.1.2.2.2.2.2.2.2.2.2.2.fr (fun i a b => by simp (disch := omega) only [jset_k, jset_j, jset_same, true_and, and_true])
                                   · refine ⟨?_, ?_, ?_, ?_, ?_, ?_, ?_, ?_, ?_, ?_, ?_, ?_⟩
                                     · have h := hC.cnt
                                       unfold CCnt cv
                                       simp (disch := omega) only [jset_k, jset_j, jset_same, true_and, and_true, Int.reduceAdd]
                                       first | omega | exact h
                                     · exact hI.2.2.1.2.1.fr hI.2.1.2.1 (by omega) (fun k j a b => by show _ = M (1 + k) j; unfold cv; simp (disch := omega) only [jset_k, jset_j, jset_same, true_and, and_true]) (fun i a b => by simp (disch := omega) only [jset_k, jset_j, jset_same, true_and, and_true])
                                     · exact hI.2.2.1.2.2.1.fr hI.2.1.2.2.1 (by omega) (fun k j a b => by show _ = M (1 + k) j; unfold cv; simp (disch := omega) only [jset_k, jset_j, jset_same, true_and, and_true]) (fun i a b => by simp (disch := omega) only [jset_k, jset_j, jset_same, true_and, and_true])
                                     · intro k h0 h1
                                       simp (disch := omega) only [jset_k, jset_j, jset_same, true_and, and_true] at h1
                                       simp only [cv1, Int.reduceAdd]
                                       by_cases e : k < M 929 582
                                       · have h := (hC.kind h0 e).1
                                         simp (disch := omega) only [jset_k, jset_j, jset_same, true_and, and_true]
                                         exact h
                                       · have e2 : k = M 929 582 := by omega
                                         subst e2
                                         simp (disch := omega) only [jset_k, jset_j, jset_same, true_and, and_true]
                                         all_goals (first | omega | simp)
                                     · exact hI.2.2.1.2.2.2.2.1.fr (by omega) (fun k j a b => by show _ = M (1 + k) j; unfold cv; simp (disch := omega) only [jset_k, jset_j, jset_same, true_and, and_true]) (fun i a b => by simp (disch := omega) only [jset_k, jset_j, jset_same, true_and, and_true]) (fun i a b => by simp (disch := omega) only [jset_k, jset_j, jset_same, true_and, and_true])
                                     · exact hI.2.2.1.2.2.2.2.2.1.fr (by omega) (fun k j a b => by show _ = M (1 + k) j; unfold cv; simp (disch := omega) only [jset_k, jset_j, jset_same, true_and, and_true]) (fun i a b => by simp (disch := omega) only [jset_k, jset_j, jset_same, true_and, and_true]) (fun i a b => by simp (disch := omega) only [jset_k, jset_j, jset_same, true_and, and_true])
                                     · exact hI.2.2.1.2.2.2.2.2.2.1.fr (by omega) (fun k j a b => by show _ = M (1 + k) j; unfold cv; simp (disch := omega) only [jset_k, jset_j, jset_same, true_and, and_true]) (fun i a b => by simp (disch := omega) only [jset_k, jset_j, jset_same, true_and, and_true]) (fun i a b => by simp (disch := omega) only [jset_k, jset_j, jset_same, true_and, and_true])
                                     · exact hI.2.2.1.2.2.2.2.2.2.2.1.fr (by omega) (fun k j a b => by show _ = M (1 + k) j; unfold cv; simp (disch := omega) only [jset_k, jset_j, jset_same, true_and, and_true]) (fun i a b => by simp (disch := omega) only [jset_k, jset_j, jset_same, true_and, and_true])
                                     · exact hI.2.2.1.2.2.2.2.2.2.2.2.1.fr (fun k j a b => by show _ = M (1 + k) j; unfold cv; simp (disch := omega) only [jset_k, jset_j, jset_same, true_and, and_true]) (fun i a b => by simp (disch := omega) only [jset_k, jset_j, jset_same, true_and, and_true])
                                     · exact hI.2.2.1.2.2.2.2.2.2.2.2.2.1.fr (fun k j a b => by show _ = M (1 + k) j; unfold cv; simp (disch := omega) only [jset_k, jset_j, jset_same, true_and, and_true]) (fun i a b => by simp (disch := omega) only [jset_k, jset_j, jset_same, true_and, and_true])
                                     · exact hI.2.2.1.2.2.2.2.2.2.2.2.2.2.1.fr (by omega) (fun k j a b => by show _ = M (1 + k) j; unfold cv; simp (disch := omega) only [jset_k, jset_j, jset_same, true_and, and_true]) (fun i a b => by simp (disch := omega) only [jset_k, jset_j, jset_same, true_and, and_true])
                                     · exact hI.2.2.1.2.2.2.2.2.2.2.2.2.2.2.fr hI.2.1.2.2.2.2.2.2.2.2.2.2 (fun k j a b => by show _ = M (1 + k) j; unfold cv; simp (disch := omega) only [jset_k, jset_j, jset_same, true_and, and_true]) (fun i a b => by simp (disch := omega) only [jset_k, jset_j, jset_same, true_and, and_true]))))
                  · dsimp only [jpush]
                    (try simp (disch := omega) only [jset_k, jset_j, jset_same, true_and, and_true] at w23)
                    first
                     | (exfalso; omega)
                     | (skip
                        refine e_if_eq 29 55 dX12_kind_26 (by decide) (by decide) rfl (fun _ => ?_) (fun h => absurd h (by decide))
                        refine e_bipush 57 dX12_kind_55 (by decide) rfl ?_
                        refine e_iret dX12_kind_57 ?_
                        first
                          | (exact ⟨by omega, hI⟩)
                          | (exfalso; omega)
                          | (refine ⟨by omega, ?_⟩
                             simp only [hn.1]
                             refine hI.live ?_ ?_ ?_
                             · repeat (first | exact Live.rf | refine Live.c ?_ (by omega) | refine Live.r ?_ (by omega) | refine Live.s ?_ (by omega))
                             · refine ⟨?_, ?_, ?_, ?_, ?_, ?_, ?_, ?_, ?_, ?_, ?_⟩
                               · have h := hI.2.1.1
                                 unfold RCnt at h ⊢
                                 simp (disch := omega) only [jset_k, jset_j, jset_same, true_and, and_true]
                                 omega
                               · exact hI.2.1.2.1.fr (fun i a b => by simp (disch := omega) only [jset_k, jset_j, jset_same, true_and, and_true])
                               · exact hI.2.1.2.2.1.fr (fun i a b => by simp (disch := omega) only [jset_k, jset_j, jset_same, true_and, and_true])
                               · intro k h0 h1
                                 simp (disch := omega) only [jset_k, jset_j, jset_same, true_and, and_true] at h1
                                 by_cases e : k < M 929 582
                                 · have h := hI.2.1.2.2.2.1 k h0 e
                                   simp (disch := omega) only [jset_k, jset_j, jset_same, true_and, and_true]
                                   exact h
                                 · have e2 : k = M 929 582 := by omega
                                   subst e2
                                   simp (disch := omega) only [jset_k, jset_j, jset_same, true_and, and_true]
                                   omega
                               · exact hI.2.1.2.2.2.2.1.fr (by omega) (fun i a b => by simp (disch := omega) only [jset_k, jset_j, jset_same, true_and, and_true]) (fun i a b => by simp (disch := omega) only [jset_k, jset_j, jset_same, true_and, and_true])
                               · exact hI.2.1.2.2.2.2.2.1.fr (by omega) (fun i a b => by simp (disch := omega) only [jset_k, jset_j, jset_same, true_and, and_true]) (fun i a b => by simp (disch := omega) only [jset_k, jset_j, jset_same, true_and, and_true]) (by simp (disch := omega) only [jset_k, jset_j, jset_same, true_and, and_true]; omega)
                               · exact hI.2.1.2.2.2.2.2.2.1.fr (by omega) (by simp (disch := omega) only [jset_k, jset_j, jset_same, true_and, and_true]) (fun i a b => by simp (disch := omega) only [jset_k, jset_j, jset_same, true_and, and_true])
                               · exact hI.2.1.2.2.2.2.2.2.2.1.fr (by omega) (fun i a b => by simp (disch := omega) only [jset_k, jset_j, jset_same, true_and, and_true]) (fun i a b => by simp (disch := omega) only [jset_k, jset_j, jset_same, true_and, and_true]) (by simp (disch := omega) only [jset_k, jset_j, jset_same, true_and, and_true]; omega)
                               · exact hI.2.1.2.2.2.2.2.2.2.2.1.fr (by omega) (fun i a b => by simp (disch := omega) only [jset_k, jset_j, jset_same, true_and, and_true])
                               · exact hI.2.1.2.2.2.2.2.2.2.2.2.1.fr (fun i a b => by simp (disch := omega) only [jset_k, jset_j, jset_same, true_and, and_true])
                               · exact hI.2.1.2.2.2.2.2.2.2.2.2.2.fr (fun i a b => by simp (disch := omega) only [jset_k, jset_j, jset_same, true_and, and_true])
                             · refine ⟨?_, ?_, ?_, ?_, ?_, ?_, ?_, ?_, ?_, ?_, ?_, ?_⟩
                               · have h := hC.cnt
                                 unfold CCnt cv
                                 simp (disch := omega) only [jset_k, jset_j, jset_same, true_and, and_true, Int.reduceAdd]
                                 first | omega | exact h
                               · exact hI.2.2.1.2.1.fr hI.2.1.2.1 (by omega) (fun k j a b => by show _ = M (1 + k) j; unfold cv; simp (disch := omega) only [jset_k, jset_j, jset_same, true_and, and_true]) (fun i a b => by simp (disch := omega) only [jset_k, jset_j, jset_same, true_and, and_true])
                               · exact hI.2.2.1.2.2.1.fr hI.2.1.2.2.1 (by omega) (fun k j a b => by show _ = M (1 + k) j; unfold cv; simp (disch := omega) only [jset_k, jset_j, jset_same, true_and, and_true]) (fun i a b => by simp (disch := omega) only [jset_k, jset_j, jset_same, true_and, and_true])
                               · intro k h0 h1
                                 simp (disch := omega) only [jset_k, jset_j, jset_same, true_and, and_true] at h1
                                 simp only [cv1, Int.reduceAdd]
                                 by_cases e : k < M 929 582
                                 · have h := (hC.kind h0 e).1
                                   simp (disch := omega) only [jset_k, jset_j, jset_same, true_and, and_true]
                                   exact h
                                 · have e2 : k = M 929 582 := by omega
                                   subst e2
                                   simp (disch := omega) only [jset_k, jset_j, jset_same, true_and, and_true]
                                   all_goals (first | omega | simp)
                               · exact hI.2.2.1.2.2.2.2.1.fr (by omega) (fun k j a b => by show _ = M (1 + k) j; unfold cv; simp (disch := omega) only [jset_k, jset_j, jset_same, true_and, and_true]) (fun i a b => by simp (disch := omega) only [jset_k, jset_j, jset_same, true_and, and_true]) (fun i a b => by simp (disch := omega) only [jset_k, jset_j, jset_same, true_and, and_true])
                               · exact hI.2.2.1.2.2.2.2.2.1.fr (by omega) (fun k j a b => by show _ = M (1 + k) j; unfold cv; simp (disch := omega) only [jset_k, jset_j, jset_same, true_and, and_true]) (fun i a b => by simp (disch := omega) only [jset_k, jset_j, jset_same, true_and, and_true]) (fun i a b => by simp (disch := omega) only [jset_k, jset_j, jset_same, true_and, and_true])
                               · exact hI.2.2.1.2.2.2.2.2.2.1.fr (by omega) (fun k j a b => by show _ = M (1 + k) j; unfold cv; simp (disch := omega) only [jset_k, jset_j, jset_same, true_and, and_true]) (fun i a b => by simp (disch := omega) only [jset_k, jset_j, jset_same, true_and, and_true]) (fun i a b => by simp (disch := omega) only [jset_k, jset_j, jset_same, true_and, and_true])
                               · exact hI.2.2.1.2.2.2.2.2.2.2.1.fr (by omega) (fun k j a b => by show _ = M (1 + k) j; unfold cv; simp (disch := omega) only [jset_k, jset_j, jset_same, true_and, and_true]) (fun i a b => by simp (disch := omega) only [jset_k, jset_j, jset_same, true_and, and_true])
                               · exact hI.2.2.1.2.2.2.2.2.2.2.2.1.fr (fun k j a b => by show _ = M (1 + k) j; unfold cv; simp (disch := omega) only [jset_k, jset_j, jset_same, true_and, and_true]) (fun i a b => by simp (disch := omega) only [jset_k, jset_j, jset_same, true_and, and_true])
                               · exact hI.2.2.1.2.2.2.2.2.2.2.2.2.1.fr (fun k j a b => by show _ = M (1 + k) j; unfold cv; simp (disch := omega) only [jset_k, jset_j, jset_same, true_and, and_true]) (fun i a b => by simp (disch := omega) only [jset_k, jset_j, jset_same, true_and, and_true])
                               · exact hI.2.2.1.2.2.2.2.2.2.2.2.2.2.1.fr (by omega) (fun k j a b => by show _ = M (1 + k) j; unfold cv; simp (disch := omega) only [jset_k, jset_j, jset_same, true_and, and_true]) (fun i a b => by simp (disch := omega) only [jset_k, jset_j, jset_same, true_and, and_true])
                               · exact hI.2.2.1.2.2.2.2.2.2.2.2.2.2.2.fr hI.2.1.2.2.2.2.2.2.2.2.2.2 (fun k j a b => by show _ = M (1 + k) j; unfold cv; simp (disch := omega) only [jset_k, jset_j, jset_same, true_and, and_true]) (fun i a b => by simp (disch := omega) only [jset_k, jset_j, jset_same, true_and, and_true]))))
            · dsimp only [jpush]
              (try simp (disch := omega) only [jset_k, jset_j, jset_same, true_and, and_true] at w11)
              first
               | (exfalso; omega)
               | (skip
                  refine e_if_eq 17 55 dX12_kind_14 (by decide) (by decide) rfl (fun _ => ?_) (fun h => absurd h (by decide))
                  refine e_bipush 57 dX12_kind_55 (by decide) rfl ?_
                  refine e_iret dX12_kind_57 ?_
                  first
                    | (exact ⟨by omega, hI⟩)
                    | (exfalso; omega)
                    | (refine ⟨by omega, ?_⟩
                       simp only [hn.1]
                       refine hI.live ?_ ?_ ?_
                       · repeat (first | exact Live.rf | refine Live.c ?_ (by omega) | refine Live.r ?_ (by omega) | refine Live.s ?_ (by omega))
                       · refine ⟨?_, ?_, ?_, ?_, ?_, ?_, ?_, ?_, ?_, ?_, ?_⟩
                         · have h := hI.2.1.1
                           unfold RCnt at h ⊢
                           simp (disch := omega) only [jset_k, jset_j, jset_same, true_and, and_true]
                           omega
                         · exact hI.2.1.2.1.fr (fun i a b => by simp (disch := omega) only [jset_k, jset_j, jset_same, true_and, and_true])
                         · exact hI.2.1.2.2.1.fr (fun i a b => by simp (disch := omega) only [jset_k, jset_j, jset_same, true_and, and_true])
                         · intro k h0 h1
                           simp (disch := omega) only [jset_k, jset_j, jset_same, true_and, and_true] at h1
                           by_cases e : k < M 929 582
                           · have h := hI.2.1.2.2.2.1 k h0 e
                             simp (disch := omega) only [jset_k, jset_j, jset_same, true_and, and_true]
                             exact h
                           · have e2 : k = M 929 582 := by omega
                             subst e2
                             simp (disch := omega) only [jset_k, jset_j, jset_same, true_and, and_true]
                             omega
                         · exact hI.2.1.2.2.2.2.1.fr (by omega) (fun i a b => by simp (disch := omega) only [jset_k, jset_j, jset_same, true_and, and_true]) (fun i a b => by simp (disch := omega) only [jset_k, jset_j, jset_same, true_and, and_true])
                         · exact hI.2.1.2.2.2.2.2.1.fr (by omega) (fun i a b => by simp (disch := omega) only [jset_k, jset_j, jset_same, true_and, and_true]) (fun i a b => by simp (disch := omega) only [jset_k, jset_j, jset_same, true_and, and_true]) (by simp (disch := omega) only [jset_k, jset_j, jset_same, true_and, and_true]; omega)
                         · exact hI.2.1.2.2.2.2.2.2.1.fr (by omega) (by simp (disch := omega) only [jset_k, jset_j, jset_same, true_and, and_true]) (fun i a b => by simp (disch := omega) only [jset_k, jset_j, jset_same, true_and, and_true])
                         · exact hI.2.1.2.2.2.2.2.2.2.1.fr (by omega) (fun i a b => by simp (disch := omega) only [jset_k, jset_j, jset_same, true_and, and_true]) (fun i a b => by simp (disch := omega) only [jset_k, jset_j, jset_same, true_and, and_true]) (by simp (disch := omega) only [jset_k, jset_j, jset_same, true_and, and_true]; omega)
                         · exact hI.2.1.2.2.2.2.2.2.2.2.1.fr (by omega) (fun i a b => by simp (disch := omega) only [jset_k, jset_j, jset_same, true_and, and_true])
                         · exact hI.2.1.2.2.2.2.2.2.2.2.2.1.fr (fun i a b => by simp (disch := omega) only [jset_k, jset_j, jset_same, true_and, and_true])
                         · exact hI.2.1.2.2.2.2.2.2.2.2.2.2.fr (fun i a b => by simp (disch := omega) only [jset_k, jset_j, jset_same, true_and, and_true])
                       · refine ⟨?_, ?_, ?_, ?_, ?_, ?_, ?_, ?_, ?_, ?_, ?_, ?_⟩
                         · have h := hC.cnt
                           unfold CCnt cv
                           simp (disch := omega) only [jset_k, jset_j, jset_same, true_and, and_true, Int.reduceAdd]
                           first | omega | exact h
                         · exact hI.2.2.1.2.1.fr hI.2.1.2.1 (by omega) (fun k j a b => by show _ = M (1 + k) j; unfold cv; simp (disch := omega) only [jset_k, jset_j, jset_same, true_and, and_true]) (fun i a b => by simp (disch := omega) only [jset_k, jset_j, jset_same, true_and, and_true])
                         · exact hI.2.2.1.2.2.1.fr hI.2.1.2.2.1 (by omega) (fun k j a b => by show _ = M (1 + k) j; unfold cv; simp (disch := omega) only [jset_k, jset_j, jset_same, true_and, and_true]) (fun i a b => by simp (disch := omega) only [jset_k, jset_j, jset_same, true_and, and_true])
                         · intro k h0 h1
                           simp (disch := omega) only [jset_k, jset_j, jset_same, true_and, and_true] at h1
                           simp only [cv1, Int.reduceAdd]
                           by_cases e : k < M 929 582
                           · have h := (hC.kind h0 e).1
                             simp (disch := omega) only [jset_k, jset_j, jset_same, true_and, and_true]
                             exact h
                           · have e2 : k = M 929 582 := by omega
                             subst e2
                             simp (disch := omega) only [jset_k, jset_j, jset_same, true_and, and_true]
                             all_goals (first | omega | simp)
                         · exact hI.2.2.1.2.2.2.2.1.fr (by omega) (fun k j a b => by show _ = M (1 + k) j; unfold cv; simp (disch := omega) only [jset_k, jset_j, jset_same, true_and, and_true]) (fun i a b => by simp (disch := omega) only [jset_k, jset_j, jset_same, true_and, and_true]) (fun i a b => by simp (disch := omega) only [jset_k, jset_j, jset_same, true_and, and_true])
                         · exact hI.2.2.1.2.2.2.2.2.1.fr (by omega) (fun k j a b => by show _ = M (1 + k) j; unfold cv; simp (disch := omega) only [jset_k, jset_j, jset_same, true_and, and_true]) (fun i a b => by simp (disch := omega) only [jset_k, jset_j, jset_same, true_and, and_true]) (fun i a b => by simp (disch := omega) only [jset_k, jset_j, jset_same, true_and, and_true])
                         · exact hI.2.2.1.2.2.2.2.2.2.1.fr (by omega) (fun k j a b => by show _ = M (1 + k) j; unfold cv; simp (disch := omega) only [jset_k, jset_j, jset_same, true_and, and_true]) (fun i a b => by simp (disch := omega) only [jset_k, jset_j, jset_same, true_and, and_true]) (fun i a b => by simp (disch := omega) only [jset_k, jset_j, jset_same, true_and, and_true])
                         · exact hI.2.2.1.2.2.2.2.2.2.2.1.fr (by omega) (fun k j a b => by show _ = M (1 + k) j; unfold cv; simp (disch := omega) only [jset_k, jset_j, jset_same, true_and, and_true]) (fun i a b => by simp (disch := omega) only [jset_k, jset_j, jset_same, true_and, and_true])
                         · exact hI.2.2.1.2.2.2.2.2.2.2.2.1.fr (fun k j a b => by show _ = M (1 + k) j; unfold cv; simp (disch := omega) only [jset_k, jset_j, jset_same, true_and, and_true]) (fun i a b => by simp (disch := omega) only [jset_k, jset_j, jset_same, true_and, and_true])
                         · exact hI.2.2.1.2.2.2.2.2.2.2.2.2.1.fr (fun k j a b => by show _ = M (1 + k) j; unfold cv; simp (disch := omega) only [jset_k, jset_j, jset_same, true_and, and_true]) (fun i a b => by simp (disch := omega) only [jset_k, jset_j, jset_same, true_and, and_true])
                         · exact hI.2.2.1.2.2.2.2.2.2.2.2.2.2.1.fr (by omega) (fun k j a b => by show _ = M (1 + k) j; unfold cv; simp (disch := omega) only [jset_k, jset_j, jset_same, true_and, and_true]) (fun i a b => by simp (disch := omega) only [jset_k, jset_j, jset_same, true_and, and_true])
                         · exact hI.2.2.1.2.2.2.2.2.2.2.2.2.2.2.fr hI.2.1.2.2.2.2.2.2.2.2.2.2 (fun k j a b => by show _ = M (1 + k) j; unfold cv; simp (disch := omega) only [jset_k, jset_j, jset_same, true_and, and_true]) (fun i a b => by simp (disch := omega) only [jset_k, jset_j, jset_same, true_and, and_true])))
          · skip
            refine e_bipush 60 dX11_kind_58 (by decide) rfl ?_
            refine e_iret dX11_kind_60 ?_
            refine jCt_of mt_yX12_kind (Nat.le_of_ble_eq_true rfl) (fun X2 => ?_)
            refine e_aload_n (i := 0) 1 dX12_kind_0 rfl rfl rfl ?_
            refine e_iconst 2 dX12_kind_1 rfl ?_
            refine e_put0 (j := 0) 5 fl_12_1 dX12_kind_2 at_928 rfl rfl rfl (by decide) hI.1 rfl ?_
            refine e_iload_n (i := 1) 6 dX12_kind_5 rfl rfl rfl ?_
            refine e_i2l 7 dX12_kind_6 (by omega) rfl ?_
            refine e_lconst1 8 dX12_kind_7 rfl ?_
            refine e_ldc2 (z := (9)) 11 (ix := 209) wd_1495 (by decide) dX12_kind_8 rfl ?_
            refine e_callS 14 mt_yX12_within ms_yX12_within wd_1390 (by decide) dX12_kind_11 rfl rfl (Nat.le_of_ble_eq_true rfl) (jroom (by decide)) rfl (m_within (by omega) (by omega) (by omega) (fun w11 => ?_) (fun w11 => ?_))
            · dsimp only [jpush]
              first
               | (exfalso; omega)
               | (skip
                  refine e_if_eq 17 55 dX12_kind_14 (by decide) (by decide) rfl (fun h => absurd h (by decide)) (fun _ => ?_)
                  refine e_iload_n (i := 2) 18 dX12_kind_17 rfl rfl rfl ?_
                  refine e_i2l 19 dX12_kind_18 (by omega) rfl ?_
                  refine e_lconst1 20 dX12_kind_19 rfl ?_
                  refine e_ldc2 (z := (999)) 23 (ix := 198) wd_1482 (by decide) dX12_kind_20 rfl ?_
                  refine e_callS 26 mt_yX12_within ms_yX12_within wd_1390 (by decide) dX12_kind_23 rfl rfl (Nat.le_of_ble_eq_true rfl) (jroom (by decide)) rfl (m_within (by omega) (by omega) (by omega) (fun w23 => ?_) (fun w23 => ?_))
                  · dsimp only [jpush]
                    first
                     | (exfalso; omega)
                     | (skip
                        refine e_if_eq 29 55 dX12_kind_26 (by decide) (by decide) rfl (fun h => absurd h (by decide)) (fun _ => ?_)
                        refine e_iload_n (i := 3) 30 dX12_kind_29 rfl rfl rfl ?_
                        refine e_i2l 31 dX12_kind_30 (by omega) rfl ?_
                        refine e_iload_n (i := 2) 32 dX12_kind_31 rfl rfl rfl ?_
                        refine e_i2l 33 dX12_kind_32 (by omega) rfl ?_
                        refine e_ldc2 (z := (999)) 36 (ix := 198) wd_1482 (by decide) dX12_kind_33 rfl ?_
                        refine e_callS 39 mt_yX12_within ms_yX12_within wd_1390 (by decide) dX12_kind_36 rfl rfl (Nat.le_of_ble_eq_true rfl) (jroom (by decide)) rfl (m_within (by omega) (by omega) (by omega) (fun w36 => ?_) (fun w36 => ?_))
                        · dsimp only [jpush]
                          first
                           | (exfalso; omega)
                           | (skip
                              refine e_if_eq 42 55 dX12_kind_39 (by decide) (by decide) rfl (fun h => absurd h (by decide)) (fun _ => ?_)
                              refine e_iload 44 dX12_kind_42 rfl rfl ?_
                              refine e_i2l 45 dX12_kind_44 (by omega) rfl ?_
                              refine e_lconst0 46 dX12_kind_45 rfl ?_
                              refine e_ldc2 (z := (99)) 49 (ix := 211) wd_1496 (by decide) dX12_kind_46 rfl ?_
                              refine e_callS 52 mt_yX12_within ms_yX12_within wd_1390 (by decide) dX12_kind_49 rfl rfl (Nat.le_of_ble_eq_true rfl) (jroom (by decide)) rfl (m_within (by omega) (by omega) (by omega) (fun w49 => ?_) (fun w49 => ?_))
                              · dsimp only [jpush]
                                first
                                 | (exfalso; omega)
                                 | (skip
                                    refine e_if_ne 55 58 dX12_kind_52 (by decide) (by decide) rfl (fun _ => ?_) (fun h => absurd h (by decide))
                                    refine e_aload_n (i := 0) 59 dX12_kind_58 rfl rfl rfl ?_
                                    refine e_getr (j := 1) 62 fl_12_13 dX12_kind_59 at_928 rfl rfl tp_928_1 rfl ?_
                                    refine e_sipush 65 dX12_kind_62 (by decide) rfl ?_
                                    refine e_iald 66 dX12_kind_65 ar_929 (by decide) (by decide) rfl (fun r65 => ?_)
                                    refine e_istore (lsn := [(6, _), (0, _), (1, _), (2, _), (3, _), (4, _), (5, _)]) 68 dX12_kind_66 (by decide) rfl rfl ?_
                                    refine e_iload 70 dX12_kind_68 rfl rfl ?_
                                    refine e_bipush 72 dX12_kind_70 (by decide) rfl ?_
                                    refine e_icmp_ne 75 78 dX12_kind_72 (by omega) (by decide) (by decide) rfl (fun b72 => ?_) (fun b72 => ?_)
                                    · first
                                       | (exfalso; omega)
                                       | (skip
                                          refine e_aload_n (i := 0) 79 dX12_kind_78 rfl rfl rfl ?_
                                          refine e_getr (j := 1) 82 fl_12_13 dX12_kind_79 at_928 rfl rfl tp_928_1 rfl ?_
                                          refine e_sipush 85 dX12_kind_82 (by decide) rfl ?_
                                          refine e_iload 87 dX12_kind_85 rfl rfl ?_
                                          refine e_iadd 88 dX12_kind_87 rfl ?_
                                          refine e_iload_n (i := 1) 89 dX12_kind_88 rfl rfl rfl ?_
                                          refine e_iast 90 dX12_kind_89 ar_929 (by omega) (by omega) (by omega) rfl ?_
                                          refine e_aload_n (i := 0) 91 dX12_kind_90 rfl rfl rfl ?_
                                          refine e_getr (j := 1) 94 fl_12_13 dX12_kind_91 at_928 rfl rfl tp_928_1 rfl ?_
                                          refine e_sipush 97 dX12_kind_94 (by decide) rfl ?_
                                          refine e_iload 99 dX12_kind_97 rfl rfl ?_
                                          refine e_iadd 100 dX12_kind_99 rfl ?_
                                          refine e_iload_n (i := 2) 101 dX12_kind_100 rfl rfl rfl ?_
                                          refine e_iast 102 dX12_kind_101 ar_929 (by omega) (by omega) (by omega) rfl ?_
                                          refine e_aload_n (i := 0) 103 dX12_kind_102 rfl rfl rfl ?_
                                          refine e_getr (j := 1) 106 fl_12_13 dX12_kind_103 at_928 rfl rfl tp_928_1 rfl ?_
                                          refine e_sipush 109 dX12_kind_106 (by decide) rfl ?_
                                          refine e_iload 111 dX12_kind_109 rfl rfl ?_
                                          refine e_iadd 112 dX12_kind_111 rfl ?_
                                          refine e_iload_n (i := 3) 113 dX12_kind_112 rfl rfl rfl ?_
                                          refine e_iast 114 dX12_kind_113 ar_929 (by omega) (by omega) (by omega) rfl ?_
                                          refine e_aload_n (i := 0) 115 dX12_kind_114 rfl rfl rfl ?_
                                          refine e_getr (j := 1) 118 fl_12_13 dX12_kind_115 at_928 rfl rfl tp_928_1 rfl ?_
                                          refine e_sipush 121 dX12_kind_118 (by decide) rfl ?_
                                          refine e_iload 123 dX12_kind_121 rfl rfl ?_
                                          refine e_iadd 124 dX12_kind_123 rfl ?_
                                          refine e_iload 126 dX12_kind_124 rfl rfl ?_
                                          refine e_iast 127 dX12_kind_126 ar_929 (by omega) (by omega) (by omega) rfl ?_
                                          refine e_aload_n (i := 0) 128 dX12_kind_127 rfl rfl rfl ?_
                                          refine e_getr (j := 1) 131 fl_12_13 dX12_kind_128 at_928 rfl rfl tp_928_1 rfl ?_
                                          refine e_sipush 134 dX12_kind_131 (by decide) rfl ?_
                                          refine e_iload 136 dX12_kind_134 rfl rfl ?_
                                          refine e_iadd 137 dX12_kind_136 rfl ?_
                                          refine e_iload 139 dX12_kind_137 rfl rfl ?_
                                          refine e_if_eq 142 146 dX12_kind_139 (by omega) (by decide) rfl (fun b139 => ?_) (fun b139 => ?_)
                                          · first
                                             | (exfalso; omega)
                                             | (skip
                                                refine e_iconst 147 dX12_kind_146 rfl ?_
                                                refine e_iast 148 dX12_kind_147 ar_929 (by omega) (by omega) (by decide) rfl ?_
                                                refine e_aload_n (i := 0) 149 dX12_kind_148 rfl rfl rfl ?_
                                                refine e_getr (j := 1) 152 fl_12_13 dX12_kind_149 at_928 rfl rfl tp_928_1 rfl ?_
                                                refine e_sipush 155 dX12_kind_152 (by decide) rfl ?_
                                                refine e_dup2 156 dX12_kind_155 rfl rfl rfl ?_
                                                refine e_iald 157 dX12_kind_156 ar_929 (by decide) (by decide) rfl (fun r156 => ?_)
                                                simp (disch := omega) only [jset_k, jset_j, jset_same, true_and, and_true] at r156 ⊢
                                                refine e_iconst 158 dX12_kind_157 rfl ?_
                                                refine e_iadd 159 dX12_kind_158 rfl ?_
                                                refine e_iast 160 dX12_kind_159 ar_929 (by decide) (by decide) (by omega) rfl ?_
                                                refine e_iload 162 dX12_kind_160 rfl rfl ?_
                                                refine e_iret dX12_kind_162 ?_
                                                first
                                                  | (exact ⟨by omega, hI⟩)
                                                  | (exfalso; omega)
                                                  | (refine ⟨by omega, ?_⟩
                                                     simp only [hn.1]
                                                     refine hI.live ?_ ?_ ?_
                                                     · repeat (first | exact Live.rf | refine Live.c ?_ (by omega) | refine Live.r ?_ (by omega) | refine Live.s ?_ (by omega))
                                                     · refine ⟨?_, ?_, ?_, ?_, ?_, ?_, ?_, ?_, ?_, ?_, ?_⟩
                                                       · have h := hI.2.1.1
                                                         unfold RCnt at h ⊢
                                                         simp (disch := omega) only [jset_k, jset_j, jset_same, true_and, and_true]
                                                         omega
                                                       · exact hI.2.1.2.1.fr (fun i a b => by simp (disch := omega) only [jset_k, jset_j, jset_same, true_and, and_true])
                                                       · exact hI.2.1.2.2.1.fr (fun i a b => by simp (disch := omega) only [jset_k, jset_j, jset_same, true_and, and_true])
                                                       · intro k h0 h1
                                                         simp (disch := omega) only [jset_k, jset_j, jset_same, true_and, and_true] at h1
                                                         by_cases e : k < M 929 582
                                                         · have h := hI.2.1.2.2.2.1 k h0 e
                                                           simp (disch := omega) only [jset_k, jset_j, jset_same, true_and, and_true]
                                                           exact h
                                                         · have e2 : k = M 929 582 := by omega
                                                           subst e2
                                                           simp (disch := omega) only [jset_k, jset_j, jset_same, true_and, and_true]
                                                           omega
                                                       · exact hI.2.1.2.2.2.2.1.fr (by omega) (fun i a b => by simp (disch := omega) only [jset_k, jset_j, jset_same, true_and, and_true]) (fun i a b => by simp (disch := omega) only [jset_k, jset_j, jset_same, true_and, and_true])
                                                       · exact hI.2.1.2.2.2.2.2.1.fr (by omega) (fun i a b => by simp (disch := omega) only [jset_k, jset_j, jset_same, true_and, and_true]) (fun i a b => by simp (disch := omega) only [jset_k, jset_j, jset_same, true_and, and_true]) (by simp (disch := omega) only [jset_k, jset_j, jset_same, true_and, and_true]; omega)
                                                       · exact hI.2.1.2.2.2.2.2.2.1.fr (by omega) (by simp (disch := omega) only [jset_k, jset_j, jset_same, true_and, and_true]) (fun i a b => by simp (disch := omega) only [jset_k, jset_j, jset_same, true_and, and_true])
                                                       · exact hI.2.1.2.2.2.2.2.2.2.1.fr (by omega) (fun i a b => by simp (disch := omega) only [jset_k, jset_j, jset_same, true_and, and_true]) (fun i a b => by simp (disch := omega) only [jset_k, jset_j, jset_same, true_and, and_true]) (by simp (disch := omega) only [jset_k, jset_j, jset_same, true_and, and_true]; omega)
                                                       · exact hI.2.1.2.2.2.2.2.2.2.2.1.fr (by omega) (fun i a b => by simp (disch := omega) only [jset_k, jset_j, jset_same, true_and, and_true])
                                                       · exact hI.2.1.2.2.2.2.2.2.2.2.2.1.fr (fun i a b => by simp (disch := omega) only [jset_k, jset_j, jset_same, true_and, and_true])
                                                       · exact hI.2.1.2.2.2.2.2.2.2.2.2.2.fr (fun i a b => by simp (disch := omega) only [jset_k, jset_j, jset_same, true_and, and_true])
                                                     · refine ⟨?_, ?_, ?_, ?_, ?_, ?_, ?_, ?_, ?_, ?_, ?_, ?_⟩
                                                       · have h := hC.cnt
                                                         unfold CCnt cv
                                                         simp (disch := omega) only [jset_k, jset_j, jset_same, true_and, and_true, Int.reduceAdd]
                                                         first | omega | exact h
                                                       · exact hI.2.2.1.2.1.fr hI.2.1.2.1 (by omega) (fun k j a b => by show _ = M (1 + k) j; unfold cv; simp (disch := omega) only [jset_k, jset_j, jset_same, true_and, and_true]) (fun i a b => by simp (disch := omega) only [jset_k, jset_j, jset_same, true_and, and_true])
                                                       · exact hI.2.2.1.2.2.1.fr hI.2.1.2.2.1 (by omega) (fun k j a b => by show _ = M (1 + k) j; unfold cv; simp (disch := omega) only [jset_k, jset_j, jset_same, true_and, and_true]) (fun i a b => by simp (disch := omega) only [jset_k, jset_j, jset_same, true_and, and_true])
                                                       · intro k h0 h1
                                                         simp (disch := omega) only [jset_k, jset_j, jset_same, true_and, and_true] at h1
                                                         simp only [cv1, Int.reduceAdd]
                                                         by_cases e : k < M 929 582
                                                         · have h := (hC.kind h0 e).1
                                                           simp (disch := omega) only [jset_k, jset_j, jset_same, true_and, and_true]
                                                           exact h
                                                         · have e2 : k = M 929 582 := by omega
                                                           subst e2
                                                           simp (disch := omega) only [jset_k, jset_j, jset_same, true_and, and_true]
                                                           all_goals (first | omega | simp)
                                                       · exact hI.2.2.1.2.2.2.2.1.fr (by omega) (fun k j a b => by show _ = M (1 + k) j; unfold cv; simp (disch := omega) only [jset_k, jset_j, jset_same, true_and, and_true]) (fun i a b => by simp (disch := omega) only [jset_k, jset_j, jset_same, true_and, and_true]) (fun i a b => by simp (disch := omega) only [jset_k, jset_j, jset_same, true_and, and_true])
                                                       · exact hI.2.2.1.2.2.2.2.2.1.fr (by omega) (fun k j a b => by show _ = M (1 + k) j; unfold cv; simp (disch := omega) only [jset_k, jset_j, jset_same, true_and, and_true]) (fun i a b => by simp (disch := omega) only [jset_k, jset_j, jset_same, true_and, and_true]) (fun i a b => by simp (disch := omega) only [jset_k, jset_j, jset_same, true_and, and_true])
                                                       · exact hI.2.2.1.2.2.2.2.2.2.1.fr (by omega) (fun k j a b => by show _ = M (1 + k) j; unfold cv; simp (disch := omega) only [jset_k, jset_j, jset_same, true_and, and_true]) (fun i a b => by simp (disch := omega) only [jset_k, jset_j, jset_same, true_and, and_true]) (fun i a b => by simp (disch := omega) only [jset_k, jset_j, jset_same, true_and, and_true])
                                                       · exact hI.2.2.1.2.2.2.2.2.2.2.1.fr (by omega) (fun k j a b => by show _ = M (1 + k) j; unfold cv; simp (disch := omega) only [jset_k, jset_j, jset_same, true_and, and_true]) (fun i a b => by simp (disch := omega) only [jset_k, jset_j, jset_same, true_and, and_true])
                                                       · exact hI.2.2.1.2.2.2.2.2.2.2.2.1.fr (fun k j a b => by show _ = M (1 + k) j; unfold cv; simp (disch := omega) only [jset_k, jset_j, jset_same, true_and, and_true]) (fun i a b => by simp (disch := omega) only [jset_k, jset_j, jset_same, true_and, and_true])
                                                       · exact hI.2.2.1.2.2.2.2.2.2.2.2.2.1.fr (fun k j a b => by show _ = M (1 + k) j; unfold cv; simp (disch := omega) only [jset_k, jset_j, jset_same, true_and, and_true]) (fun i a b => by simp (disch := omega) only [jset_k, jset_j, jset_same, true_and, and_true])
                                                       · exact hI.2.2.1.2.2.2.2.2.2.2.2.2.2.1.fr (by omega) (fun k j a b => by show _ = M (1 + k) j; unfold cv; simp (disch := omega) only [jset_k, jset_j, jset_same, true_and, and_true]) (fun i a b => by simp (disch := omega) only [jset_k, jset_j, jset_same, true_and, and_true])
                                                       · exact hI.2.2.1.2.2.2.2.2.2.2.2.2.2.2.fr hI.2.1.2.2.2.2.2.2.2.2.2.2 (fun k j a b => by show _ = M (1 + k) j; unfold cv; simp (disch := omega) only [jset_k, jset_j, jset_same, true_and, and_true]) (fun i a b => by simp (disch := omega) only [jset_k, jset_j, jset_same, true_and, and_true])))
                                          · first
                                             | (exfalso; omega)
                                             | (skip
                                                refine e_iconst 143 dX12_kind_142 rfl ?_
                                                refine e_goto 147 dX12_kind_143 (by decide) ?_
                                                refine e_iast 148 dX12_kind_147 ar_929 (by omega) (by omega) (by decide) rfl ?_
                                                refine e_aload_n (i := 0) 149 dX12_kind_148 rfl rfl rfl ?_
                                                refine e_getr (j := 1) 152 fl_12_13 dX12_kind_149 at_928 rfl rfl tp_928_1 rfl ?_
                                                refine e_sipush 155 dX12_kind_152 (by decide) rfl ?_
                                                refine e_dup2 156 dX12_kind_155 rfl rfl rfl ?_
                                                refine e_iald 157 dX12_kind_156 ar_929 (by decide) (by decide) rfl (fun r156 => ?_)
                                                simp (disch := omega) only [jset_k, jset_j, jset_same, true_and, and_true] at r156 ⊢
                                                refine e_iconst 158 dX12_kind_157 rfl ?_
                                                refine e_iadd 159 dX12_kind_158 rfl ?_
                                                refine e_iast 160 dX12_kind_159 ar_929 (by decide) (by decide) (by omega) rfl ?_
                                                refine e_iload 162 dX12_kind_160 rfl rfl ?_
                                                refine e_iret dX12_kind_162 ?_
                                                first
                                                  | (exact ⟨by omega, hI⟩)
                                                  | (exfalso; omega)
                                                  | (refine ⟨by omega, ?_⟩
                                                     simp only [hn.1]
                                                     refine hI.live ?_ ?_ ?_
                                                     · repeat (first | exact Live.rf | refine Live.c ?_ (by omega) | refine Live.r ?_ (by omega) | refine Live.s ?_ (by omega))
                                                     · refine ⟨?_, ?_, ?_, ?_, ?_, ?_, ?_, ?_, ?_, ?_, ?_⟩
                                                       · have h := hI.2.1.1
                                                         unfold RCnt at h ⊢
                                                         simp (disch := omega) only [jset_k, jset_j, jset_same, true_and, and_true]
                                                         omega
                                                       · exact hI.2.1.2.1.fr (fun i a b => by simp (disch := omega) only [jset_k, jset_j, jset_same, true_and, and_true])
                                                       · exact hI.2.1.2.2.1.fr (fun i a b => by simp (disch := omega) only [jset_k, jset_j, jset_same, true_and, and_true])
                                                       · intro k h0 h1
                                                         simp (disch := omega) only [jset_k, jset_j, jset_same, true_and, and_true] at h1
                                                         by_cases e : k < M 929 582
                                                         · have h := hI.2.1.2.2.2.1 k h0 e
                                                           simp (disch := omega) only [jset_k, jset_j, jset_same, true_and, and_true]
                                                           exact h
                                                         · have e2 : k = M 929 582 := by omega
                                                           subst e2
                                                           simp (disch := omega) only [jset_k, jset_j, jset_same, true_and, and_true]
                                                           omega
                                                       · exact hI.2.1.2.2.2.2.1.fr (by omega) (fun i a b => by simp (disch := omega) only [jset_k, jset_j, jset_same, true_and, and_true]) (fun i a b => by simp (disch := omega) only [jset_k, jset_j, jset_same, true_and, and_true])
                                                       · exact hI.2.1.2.2.2.2.2.1.fr (by omega) (fun i a b => by simp (disch := omega) only [jset_k, jset_j, jset_same, true_and, and_true]) (fun i a b => by simp (disch := omega) only [jset_k, jset_j, jset_same, true_and, and_true]) (by simp (disch := omega) only [jset_k, jset_j, jset_same, true_and, and_true]; omega)
                                                       · exact hI.2.1.2.2.2.2.2.2.1.fr (by omega) (by simp (disch := omega) only [jset_k, jset_j, jset_same, true_and, and_true]) (fun i a b => by simp (disch := omega) only [jset_k, jset_j, jset_same, true_and, and_true])
                                                       · exact hI.2.1.2.2.2.2.2.2.2.1.fr (by omega) (fun i a b => by simp (disch := omega) only [jset_k, jset_j, jset_same, true_and, and_true]) (fun i a b => by simp (disch := omega) only [jset_k, jset_j, jset_same, true_and, and_true]) (by simp (disch := omega) only [jset_k, jset_j, jset_same, true_and, and_true]; omega)
                                                       · exact hI.2.1.2.2.2.2.2.2.2.2.1.fr (by omega) (fun i a b => by simp (disch := omega) only [jset_k, jset_j, jset_same, true_and, and_true])
                                                       · exact hI.2.1.2.2.2.2.2.2.2.2.2.1.fr (fun i a b => by simp (disch := omega) only [jset_k, jset_j, jset_same, true_and, and_true])
                                                       · exact hI.2.1.2.2.2.2.2.2.2.2.2.2.fr (fun i a b => by simp (disch := omega) only [jset_k, jset_j, jset_same, true_and, and_true])
                                                     · refine ⟨?_, ?_, ?_, ?_, ?_, ?_, ?_, ?_, ?_, ?_, ?_, ?_⟩
                                                       · have h := hC.cnt
                                                         unfold CCnt cv
                                                         simp (disch := omega) only [jset_k, jset_j, jset_same, true_and, and_true, Int.reduceAdd]
                                                         first | omega | exact h
                                                       · exact hI.2.2.1.2.1.fr hI.2.1.2.1 (by omega) (fun k j a b => by show _ = M (1 + k) j; unfold cv; simp (disch := omega) only [jset_k, jset_j, jset_same, true_and, and_true]) (fun i a b => by simp (disch := omega) only [jset_k, jset_j, jset_same, true_and, and_true])
                                                       · exact hI.2.2.1.2.2.1.fr hI.2.1.2.2.1 (by omega) (fun k j a b => by show _ = M (1 + k) j; unfold cv; simp (disch := omega) only [jset_k, jset_j, jset_same, true_and, and_true]) (fun i a b => by simp (disch := omega) only [jset_k, jset_j, jset_same, true_and, and_true])
                                                       · intro k h0 h1
                                                         simp (disch := omega) only [jset_k, jset_j, jset_same, true_and, and_true] at h1
                                                         simp only [cv1, Int.reduceAdd]
                                                         by_cases e : k < M 929 582
                                                         · have h := (hC.kind h0 e).1
                                                           simp (disch := omega) only [jset_k, jset_j, jset_same, true_and, and_true]
                                                           exact h
                                                         · have e2 : k = M 929 582 := by omega
                                                           subst e2
                                                           simp (disch := omega) only [jset_k, jset_j, jset_same, true_and, and_true]
                                                           all_goals (first | omega | simp)
                                                       · exact hI.2.2.1.2.2.2.2.1.fr (by omega) (fun k j a b => by show _ = M (1 + k) j; unfold cv; simp (disch := omega) only [jset_k, jset_j, jset_same, true_and, and_true]) (fun i a b => by simp (disch := omega) only [jset_k, jset_j, jset_same, true_and, and_true]) (fun i a b => by simp (disch := omega) only [jset_k, jset_j, jset_same, true_and, and_true])
                                                       · exact hI.2.2.1.2.2.2.2.2.1.fr (by omega) (fun k j a b => by show _ = M (1 + k) j; unfold cv; simp (disch := omega) only [jset_k, jset_j, jset_same, true_and, and_true]) (fun i a b => by simp (disch := omega) only [jset_k, jset_j, jset_same, true_and, and_true]) (fun i a b => by simp (disch := omega) only [jset_k, jset_j, jset_same, true_and, and_true])
                                                       · exact hI.2.2.1.2.2.2.2.2.2.1.fr (by omega) (fun k j a b => by show _ = M (1 + k) j; unfold cv; simp (disch := omega) only [jset_k, jset_j, jset_same, true_and, and_true]) (fun i a b => by simp (disch := omega) only [jset_k, jset_j, jset_same, true_and, and_true]) (fun i a b => by simp (disch := omega) only [jset_k, jset_j, jset_same, true_and, and_true])
                                                       · exact hI.2.2.1.2.2.2.2.2.2.2.1.fr (by omega) (fun k j a b => by show _ = M (1 + k) j; unfold cv; simp (disch := omega) only [jset_k, jset_j, jset_same, true_and, and_true]) (fun i a b => by simp (disch := omega) only [jset_k, jset_j, jset_same, true_and, and_true])
                                                       · exact hI.2.2.1.2.2.2.2.2.2.2.2.1.fr (fun k j a b => by show _ = M (1 + k) j; unfold cv; simp (disch := omega) only [jset_k, jset_j, jset_same, true_and, and_true]) (fun i a b => by simp (disch := omega) only [jset_k, jset_j, jset_same, true_and, and_true])
                                                       · exact hI.2.2.1.2.2.2.2.2.2.2.2.2.1.fr (fun k j a b => by show _ = M (1 + k) j; unfold cv; simp (disch := omega) only [jset_k, jset_j, jset_same, true_and, and_true]) (fun i a b => by simp (disch := omega) only [jset_k, jset_j, jset_same, true_and, and_true])
                                                       · exact hI.2.2.1.2.2.2.2.2.2.2.2.2.2.1.fr (by omega) (fun k j a b => by show _ = M (1 + k) j; unfold cv; simp (disch := omega) only [jset_k, jset_j, jset_same, true_and, and_true]) (fun i a b => by simp (disch := omega) only [jset_k, jset_j, jset_same, true_and, and_true])
                                                       · exact hI.2.2.1.2.2.2.2.2.2.2.2.2.2.2.fr hI.2.1.2.2.2.2.2.2.2.2.2.2 (fun k j a b => by show _ = M (1 + k) j; unfold cv; simp (disch := omega) only [jset_k, jset_j, jset_same, true_and, and_true]) (fun i a b => by simp (disch := omega) only [jset_k, jset_j, jset_same, true_and, and_true]))))
                                    · first
                                       | (exfalso; omega)
                                       | (skip
                                          refine e_bipush 77 dX12_kind_75 (by decide) rfl ?_
                                          refine e_iret dX12_kind_77 ?_
                                          first
                                            | (exact ⟨by omega, hI⟩)
                                            | (exfalso; omega)))
                              · dsimp only [jpush]
                                first
                                 | (exfalso; omega)
                                 | (skip
                                    refine e_if_ne 55 58 dX12_kind_52 (by decide) (by decide) rfl (fun h => absurd h (by decide)) (fun _ => ?_)
                                    refine e_bipush 57 dX12_kind_55 (by decide) rfl ?_
                                    refine e_iret dX12_kind_57 ?_
                                    first
                                      | (exact ⟨by omega, hI⟩)
                                      | (exfalso; omega)))
                        · dsimp only [jpush]
                          first
                           | (exfalso; omega)
                           | (skip
                              refine e_if_eq 42 55 dX12_kind_39 (by decide) (by decide) rfl (fun _ => ?_) (fun h => absurd h (by decide))
                              refine e_bipush 57 dX12_kind_55 (by decide) rfl ?_
                              refine e_iret dX12_kind_57 ?_
                              first
                                | (exact ⟨by omega, hI⟩)
                                | (exfalso; omega)))
                  · dsimp only [jpush]
                    first
                     | (exfalso; omega)
                     | (skip
                        refine e_if_eq 29 55 dX12_kind_26 (by decide) (by decide) rfl (fun _ => ?_) (fun h => absurd h (by decide))
                        refine e_bipush 57 dX12_kind_55 (by decide) rfl ?_
                        refine e_iret dX12_kind_57 ?_
                        first
                          | (exact ⟨by omega, hI⟩)
                          | (exfalso; omega)))
            · dsimp only [jpush]
              first
               | (exfalso; omega)
               | (skip
                  refine e_if_eq 17 55 dX12_kind_14 (by decide) (by decide) rfl (fun _ => ?_) (fun h => absurd h (by decide))
                  refine e_bipush 57 dX12_kind_55 (by decide) rfl ?_
                  refine e_iret dX12_kind_57 ?_
                  first
                    | (exact ⟨by omega, hI⟩)
                    | (exfalso; omega))
        · dsimp only [jpush]
          refine e_if_ne 43 46 dX11_kind_40 (by decide) (by decide) rfl (fun h => absurd h (by decide)) (fun _ => ?_)
          refine e_bipush 45 dX11_kind_43 (by decide) rfl ?_
          refine e_iret dX11_kind_45 ?_
          refine jCt_of mt_yX12_kind (Nat.le_of_ble_eq_true rfl) (fun X2 => ?_)
          refine e_aload_n (i := 0) 1 dX12_kind_0 rfl rfl rfl ?_
          refine e_iconst 2 dX12_kind_1 rfl ?_
          refine e_put0 (j := 0) 5 fl_12_1 dX12_kind_2 at_928 rfl rfl rfl (by decide) hI.1 rfl ?_
          refine e_iload_n (i := 1) 6 dX12_kind_5 rfl rfl rfl ?_
          refine e_i2l 7 dX12_kind_6 (by omega) rfl ?_
          refine e_lconst1 8 dX12_kind_7 rfl ?_
          refine e_ldc2 (z := (9)) 11 (ix := 209) wd_1495 (by decide) dX12_kind_8 rfl ?_
          refine e_callS 14 mt_yX12_within ms_yX12_within wd_1390 (by decide) dX12_kind_11 rfl rfl (Nat.le_of_ble_eq_true rfl) (jroom (by decide)) rfl (m_within (by omega) (by omega) (by omega) (fun w11 => ?_) (fun w11 => ?_))
          · dsimp only [jpush]
            first
             | (exfalso; omega)
             | (skip
                refine e_if_eq 17 55 dX12_kind_14 (by decide) (by decide) rfl (fun h => absurd h (by decide)) (fun _ => ?_)
                refine e_iload_n (i := 2) 18 dX12_kind_17 rfl rfl rfl ?_
                refine e_i2l 19 dX12_kind_18 (by omega) rfl ?_
                refine e_lconst1 20 dX12_kind_19 rfl ?_
                refine e_ldc2 (z := (999)) 23 (ix := 198) wd_1482 (by decide) dX12_kind_20 rfl ?_
                refine e_callS 26 mt_yX12_within ms_yX12_within wd_1390 (by decide) dX12_kind_23 rfl rfl (Nat.le_of_ble_eq_true rfl) (jroom (by decide)) rfl (m_within (by omega) (by omega) (by omega) (fun w23 => ?_) (fun w23 => ?_))
                · dsimp only [jpush]
                  first
                   | (exfalso; omega)
                   | (skip
                      refine e_if_eq 29 55 dX12_kind_26 (by decide) (by decide) rfl (fun h => absurd h (by decide)) (fun _ => ?_)
                      refine e_iload_n (i := 3) 30 dX12_kind_29 rfl rfl rfl ?_
                      refine e_i2l 31 dX12_kind_30 (by omega) rfl ?_
                      refine e_iload_n (i := 2) 32 dX12_kind_31 rfl rfl rfl ?_
                      refine e_i2l 33 dX12_kind_32 (by omega) rfl ?_
                      refine e_ldc2 (z := (999)) 36 (ix := 198) wd_1482 (by decide) dX12_kind_33 rfl ?_
                      refine e_callS 39 mt_yX12_within ms_yX12_within wd_1390 (by decide) dX12_kind_36 rfl rfl (Nat.le_of_ble_eq_true rfl) (jroom (by decide)) rfl (m_within (by omega) (by omega) (by omega) (fun w36 => ?_) (fun w36 => ?_))
                      · dsimp only [jpush]
                        first
                         | (exfalso; omega)
                         | (skip
                            refine e_if_eq 42 55 dX12_kind_39 (by decide) (by decide) rfl (fun h => absurd h (by decide)) (fun _ => ?_)
                            refine e_iload 44 dX12_kind_42 rfl rfl ?_
                            refine e_i2l 45 dX12_kind_44 (by omega) rfl ?_
                            refine e_lconst0 46 dX12_kind_45 rfl ?_
                            refine e_ldc2 (z := (99)) 49 (ix := 211) wd_1496 (by decide) dX12_kind_46 rfl ?_
                            refine e_callS 52 mt_yX12_within ms_yX12_within wd_1390 (by decide) dX12_kind_49 rfl rfl (Nat.le_of_ble_eq_true rfl) (jroom (by decide)) rfl (m_within (by omega) (by omega) (by omega) (fun w49 => ?_) (fun w49 => ?_))
                            · dsimp only [jpush]
                              first
                               | (exfalso; omega)
                               | (skip
                                  refine e_if_ne 55 58 dX12_kind_52 (by decide) (by decide) rfl (fun _ => ?_) (fun h => absurd h (by decide))
                                  refine e_aload_n (i := 0) 59 dX12_kind_58 rfl rfl rfl ?_
                                  refine e_getr (j := 1) 62 fl_12_13 dX12_kind_59 at_928 rfl rfl tp_928_1 rfl ?_
                                  refine e_sipush 65 dX12_kind_62 (by decide) rfl ?_
                                  refine e_iald 66 dX12_kind_65 ar_929 (by decide) (by decide) rfl (fun r65 => ?_)
                                  refine e_istore (lsn := [(6, _), (0, _), (1, _), (2, _), (3, _), (4, _), (5, _)]) 68 dX12_kind_66 (by decide) rfl rfl ?_
                                  refine e_iload 70 dX12_kind_68 rfl rfl ?_
                                  refine e_bipush 72 dX12_kind_70 (by decide) rfl ?_
                                  refine e_icmp_ne 75 78 dX12_kind_72 (by omega) (by decide) (by decide) rfl (fun b72 => ?_) (fun b72 => ?_)
                                  · first
                                     | (exfalso; omega)
                                     | (skip
                                        refine e_aload_n (i := 0) 79 dX12_kind_78 rfl rfl rfl ?_
                                        refine e_getr (j := 1) 82 fl_12_13 dX12_kind_79 at_928 rfl rfl tp_928_1 rfl ?_
                                        refine e_sipush 85 dX12_kind_82 (by decide) rfl ?_
                                        refine e_iload 87 dX12_kind_85 rfl rfl ?_
                                        refine e_iadd 88 dX12_kind_87 rfl ?_
                                        refine e_iload_n (i := 1) 89 dX12_kind_88 rfl rfl rfl ?_
                                        refine e_iast 90 dX12_kind_89 ar_929 (by omega) (by omega) (by omega) rfl ?_
                                        refine e_aload_n (i := 0) 91 dX12_kind_90 rfl rfl rfl ?_
                                        refine e_getr (j := 1) 94 fl_12_13 dX12_kind_91 at_928 rfl rfl tp_928_1 rfl ?_
                                        refine e_sipush 97 dX12_kind_94 (by decide) rfl ?_
                                        refine e_iload 99 dX12_kind_97 rfl rfl ?_
                                        refine e_iadd 100 dX12_kind_99 rfl ?_
                                        refine e_iload_n (i := 2) 101 dX12_kind_100 rfl rfl rfl ?_
                                        refine e_iast 102 dX12_kind_101 ar_929 (by omega) (by omega) (by omega) rfl ?_
                                        refine e_aload_n (i := 0) 103 dX12_kind_102 rfl rfl rfl ?_
                                        refine e_getr (j := 1) 106 fl_12_13 dX12_kind_103 at_928 rfl rfl tp_928_1 rfl ?_
                                        refine e_sipush 109 dX12_kind_106 (by decide) rfl ?_
                                        refine e_iload 111 dX12_kind_109 rfl rfl ?_
                                        refine e_iadd 112 dX12_kind_111 rfl ?_
                                        refine e_iload_n (i := 3) 113 dX12_kind_112 rfl rfl rfl ?_
                                        refine e_iast 114 dX12_kind_113 ar_929 (by omega) (by omega) (by omega) rfl ?_
                                        refine e_aload_n (i := 0) 115 dX12_kind_114 rfl rfl rfl ?_
                                        refine e_getr (j := 1) 118 fl_12_13 dX12_kind_115 at_928 rfl rfl tp_928_1 rfl ?_
                                        refine e_sipush 121 dX12_kind_118 (by decide) rfl ?_
                                        refine e_iload 123 dX12_kind_121 rfl rfl ?_
                                        refine e_iadd 124 dX12_kind_123 rfl ?_
                                        refine e_iload 126 dX12_kind_124 rfl rfl ?_
                                        refine e_iast 127 dX12_kind_126 ar_929 (by omega) (by omega) (by omega) rfl ?_
                                        refine e_aload_n (i := 0) 128 dX12_kind_127 rfl rfl rfl ?_
                                        refine e_getr (j := 1) 131 fl_12_13 dX12_kind_128 at_928 rfl rfl tp_928_1 rfl ?_
                                        refine e_sipush 134 dX12_kind_131 (by decide) rfl ?_
                                        refine e_iload 136 dX12_kind_134 rfl rfl ?_
                                        refine e_iadd 137 dX12_kind_136 rfl ?_
                                        refine e_iload 139 dX12_kind_137 rfl rfl ?_
                                        refine e_if_eq 142 146 dX12_kind_139 (by omega) (by decide) rfl (fun b139 => ?_) (fun b139 => ?_)
                                        · first
                                           | (exfalso; omega)
                                           | (skip
                                              refine e_iconst 147 dX12_kind_146 rfl ?_
                                              refine e_iast 148 dX12_kind_147 ar_929 (by omega) (by omega) (by decide) rfl ?_
                                              refine e_aload_n (i := 0) 149 dX12_kind_148 rfl rfl rfl ?_
                                              refine e_getr (j := 1) 152 fl_12_13 dX12_kind_149 at_928 rfl rfl tp_928_1 rfl ?_
                                              refine e_sipush 155 dX12_kind_152 (by decide) rfl ?_
                                              refine e_dup2 156 dX12_kind_155 rfl rfl rfl ?_
                                              refine e_iald 157 dX12_kind_156 ar_929 (by decide) (by decide) rfl (fun r156 => ?_)
                                              simp (disch := omega) only [jset_k, jset_j, jset_same, true_and, and_true] at r156 ⊢
                                              refine e_iconst 158 dX12_kind_157 rfl ?_
                                              refine e_iadd 159 dX12_kind_158 rfl ?_
                                              refine e_iast 160 dX12_kind_159 ar_929 (by decide) (by decide) (by omega) rfl ?_
                                              refine e_iload 162 dX12_kind_160 rfl rfl ?_
                                              refine e_iret dX12_kind_162 ?_
                                              first
                                                | (exact ⟨by omega, hI⟩)
                                                | (exfalso; omega)
                                                | (refine ⟨by omega, ?_⟩
                                                   simp only [hn.1]
                                                   refine hI.live ?_ ?_ ?_
                                                   · repeat (first | exact Live.rf | refine Live.c ?_ (by omega) | refine Live.r ?_ (by omega) | refine Live.s ?_ (by omega))
                                                   · refine ⟨?_, ?_, ?_, ?_, ?_, ?_, ?_, ?_, ?_, ?_, ?_⟩
                                                     · have h := hI.2.1.1
                                                       unfold RCnt at h ⊢
                                                       simp (disch := omega) only [jset_k, jset_j, jset_same, true_and, and_true]
                                                       omega
                                                     · exact hI.2.1.2.1.fr (fun i a b => by simp (disch := omega) only [jset_k, jset_j, jset_same, true_and, and_true])
                                                     · exact hI.2.1.2.2.1.fr (fun i a b => by simp (disch := omega) only [jset_k, jset_j, jset_same, true_and, and_true])
                                                     · intro k h0 h1
                                                       simp (disch := omega) only [jset_k, jset_j, jset_same, true_and, and_true] at h1
                                                       by_cases e : k < M 929 582
                                                       · have h := hI.2.1.2.2.2.1 k h0 e
                                                         simp (disch := omega) only [jset_k, jset_j, jset_same, true_and, and_true]
                                                         exact h
                                                       · have e2 : k = M 929 582 := by omega
                                                         subst e2
                                                         simp (disch := omega) only [jset_k, jset_j, jset_same, true_and, and_true]
                                                         omega
                                                     · exact hI.2.1.2.2.2.2.1.fr (by omega) (fun i a b => by simp (disch := omega) only [jset_k, jset_j, jset_same, true_and, and_true]) (fun i a b => by simp (disch := omega) only [jset_k, jset_j, jset_same, true_and, and_true])
                                                     · exact hI.2.1.2.2.2.2.2.1.fr (by omega) (fun i a b => by simp (disch := omega) only [jset_k, jset_j, jset_same, true_and, and_true]) (fun i a b => by simp (disch := omega) only [jset_k, jset_j, jset_same, true_and, and_true]) (by simp (disch := omega) only [jset_k, jset_j, jset_same, true_and, and_true]; omega)
                                                     · exact hI.2.1.2.2.2.2.2.2.1.fr (by omega) (by simp (disch := omega) only [jset_k, jset_j, jset_same, true_and, and_true]) (fun i a b => by simp (disch := omega) only [jset_k, jset_j, jset_same, true_and, and_true])
                                                     · exact hI.2.1.2.2.2.2.2.2.2.1.fr (by omega) (fun i a b => by simp (disch := omega) only [jset_k, jset_j, jset_same, true_and, and_true]) (fun i a b => by simp (disch := omega) only [jset_k, jset_j, jset_same, true_and, and_true]) (by simp (disch := omega) only [jset_k, jset_j, jset_same, true_and, and_true]; omega)
                                                     · exact hI.2.1.2.2.2.2.2.2.2.2.1.fr (by omega) (fun i a b => by simp (disch := omega) only [jset_k, jset_j, jset_same, true_and, and_true])
                                                     · exact hI.2.1.2.2.2.2.2.2.2.2.2.1.fr (fun i a b => by simp (disch := omega) only [jset_k, jset_j, jset_same, true_and, and_true])
                                                     · exact hI.2.1.2.2.2.2.2.2.2.2.2.2.fr (fun i a b => by simp (disch := omega) only [jset_k, jset_j, jset_same, true_and, and_true])
                                                   · refine ⟨?_, ?_, ?_, ?_, ?_, ?_, ?_, ?_, ?_, ?_, ?_, ?_⟩
                                                     · have h := hC.cnt
                                                       unfold CCnt cv
                                                       simp (disch := omega) only [jset_k, jset_j, jset_same, true_and, and_true, Int.reduceAdd]
                                                       first | omega | exact h
                                                     · exact hI.2.2.1.2.1.fr hI.2.1.2.1 (by omega) (fun k j a b => by show _ = M (1 + k) j; unfold cv; simp (disch := omega) only [jset_k, jset_j, jset_same, true_and, and_true]) (fun i a b => by simp (disch := omega) only [jset_k, jset_j, jset_same, true_and, and_true])
                                                     · exact hI.2.2.1.2.2.1.fr hI.2.1.2.2.1 (by omega) (fun k j a b => by show _ = M (1 + k) j; unfold cv; simp (disch := omega) only [jset_k, jset_j, jset_same, true_and, and_true]) (fun i a b => by simp (disch := omega) only [jset_k, jset_j, jset_same, true_and, and_true])
                                                     · intro k h0 h1
                                                       simp (disch := omega) only [jset_k, jset_j, jset_same, true_and, and_true] at h1
                                                       simp only [cv1, Int.reduceAdd]
                                                       by_cases e : k < M 929 582
                                                       · have h := (hC.kind h0 e).1
                                                         simp (disch := omega) only [jset_k, jset_j, jset_same, true_and, and_true]
                                                         exact h
                                                       · have e2 : k = M 929 582 := by omega
                                                         subst e2
                                                         simp (disch := omega) only [jset_k, jset_j, jset_same, true_and, and_true]
                                                         all_goals (first | omega | simp)
                                                     · exact hI.2.2.1.2.2.2.2.1.fr (by omega) (fun k j a b => by show _ = M (1 + k) j; unfold cv; simp (disch := omega) only [jset_k, jset_j, jset_same, true_and, and_true]) (fun i a b => by simp (disch := omega) only [jset_k, jset_j, jset_same, true_and, and_true]) (fun i a b => by simp (disch := omega) only [jset_k, jset_j, jset_same, true_and, and_true])
                                                     · exact hI.2.2.1.2.2.2.2.2.1.fr (by omega) (fun k j a b => by show _ = M (1 + k) j; unfold cv; simp (disch := omega) only [jset_k, jset_j, jset_same, true_and, and_true]) (fun i a b => by simp (disch := omega) only [jset_k, jset_j, jset_same, true_and, and_true]) (fun i a b => by simp (disch := omega) only [jset_k, jset_j, jset_same, true_and, and_true])
                                                     · exact hI.2.2.1.2.2.2.2.2.2.1.fr (by omega) (fun k j a b => by show _ = M (1 + k) j; unfold cv; simp (disch := omega) only [jset_k, jset_j, jset_same, true_and, and_true]) (fun i a b => by simp (disch := omega) only [jset_k, jset_j, jset_same, true_and, and_true]) (fun i a b => by simp (disch := omega) only [jset_k, jset_j, jset_same, true_and, and_true])
                                                     · exact hI.2.2.1.2.2.2.2.2.2.2.1.fr (by omega) (fun k j a b => by show _ = M (1 + k) j; unfold cv; simp (disch := omega) only [jset_k, jset_j, jset_same, true_and, and_true]) (fun i a b => by simp (disch := omega) only [jset_k, jset_j, jset_same, true_and, and_true])
                                                     · exact hI.2.2.1.2.2.2.2.2.2.2.2.1.fr (fun k j a b => by show _ = M (1 + k) j; unfold cv; simp (disch := omega) only [jset_k, jset_j, jset_same, true_and, and_true]) (fun i a b => by simp (disch := omega) only [jset_k, jset_j, jset_same, true_and, and_true])
                                                     · exact hI.2.2.1.2.2.2.2.2.2.2.2.2.1.fr (fun k j a b => by show _ = M (1 + k) j; unfold cv; simp (disch := omega) only [jset_k, jset_j, jset_same, true_and, and_true]) (fun i a b => by simp (disch := omega) only [jset_k, jset_j, jset_same, true_and, and_true])
                                                     · exact hI.2.2.1.2.2.2.2.2.2.2.2.2.2.1.fr (by omega) (fun k j a b => by show _ = M (1 + k) j; unfold cv; simp (disch := omega) only [jset_k, jset_j, jset_same, true_and, and_true]) (fun i a b => by simp (disch := omega) only [jset_k, jset_j, jset_same, true_and, and_true])
                                                     · exact hI.2.2.1.2.2.2.2.2.2.2.2.2.2.2.fr hI.2.1.2.2.2.2.2.2.2.2.2.2 (fun k j a b => by show _ = M (1 + k) j; unfold cv; simp (disch := omega) only [jset_k, jset_j, jset_same, true_and, and_true]) (fun i a b => by simp (disch := omega) only [jset_k, jset_j, jset_same, true_and, and_true])))
                                        · first
                                           | (exfalso; omega)
                                           | (skip
                                              refine e_iconst 143 dX12_kind_142 rfl ?_
                                              refine e_goto 147 dX12_kind_143 (by decide) ?_
                                              refine e_iast 148 dX12_kind_147 ar_929 (by omega) (by omega) (by decide) rfl ?_
                                              refine e_aload_n (i := 0) 149 dX12_kind_148 rfl rfl rfl ?_
                                              refine e_getr (j := 1) 152 fl_12_13 dX12_kind_149 at_928 rfl rfl tp_928_1 rfl ?_
                                              refine e_sipush 155 dX12_kind_152 (by decide) rfl ?_
                                              refine e_dup2 156 dX12_kind_155 rfl rfl rfl ?_
                                              refine e_iald 157 dX12_kind_156 ar_929 (by decide) (by decide) rfl (fun r156 => ?_)
                                              simp (disch := omega) only [jset_k, jset_j, jset_same, true_and, and_true] at r156 ⊢
                                              refine e_iconst 158 dX12_kind_157 rfl ?_
                                              refine e_iadd 159 dX12_kind_158 rfl ?_
                                              refine e_iast 160 dX12_kind_159 ar_929 (by decide) (by decide) (by omega) rfl ?_
                                              refine e_iload 162 dX12_kind_160 rfl rfl ?_
                                              refine e_iret dX12_kind_162 ?_
                                              first
                                                | (exact ⟨by omega, hI⟩)
                                                | (exfalso; omega)
                                                | (refine ⟨by omega, ?_⟩
                                                   simp only [hn.1]
                                                   refine hI.live ?_ ?_ ?_
                                                   · repeat (first | exact Live.rf | refine Live.c ?_ (by omega) | refine Live.r ?_ (by omega) | refine Live.s ?_ (by omega))
                                                   · refine ⟨?_, ?_, ?_, ?_, ?_, ?_, ?_, ?_, ?_, ?_, ?_⟩
                                                     · have h := hI.2.1.1
                                                       unfold RCnt at h ⊢
                                                       simp (disch := omega) only [jset_k, jset_j, jset_same, true_and, and_true]
                                                       omega
                                                     · exact hI.2.1.2.1.fr (fun i a b => by simp (disch := omega) only [jset_k, jset_j, jset_same, true_and, and_true])
                                                     · exact hI.2.1.2.2.1.fr (fun i a b => by simp (disch := omega) only [jset_k, jset_j, jset_same, true_and, and_true])
                                                     · intro k h0 h1
                                                       simp (disch := omega) only [jset_k, jset_j, jset_same, true_and, and_true] at h1
                                                       by_cases e : k < M 929 582
                                                       · have h := hI.2.1.2.2.2.1 k h0 e
                                                         simp (disch := omega) only [jset_k, jset_j, jset_same, true_and, and_true]
                                                         exact h
                                                       · have e2 : k = M 929 582 := by omega
                                                         subst e2
                                                         simp (disch := omega) only [jset_k, jset_j, jset_same, true_and, and_true]
                                                         omega
                                                     · exact hI.2.1.2.2.2.2.1.fr (by omega) (fun i a b => by simp (disch := omega) only [jset_k, jset_j, jset_same, true_and, and_true]) (fun i a b => by simp (disch := omega) only [jset_k, jset_j, jset_same, true_and, and_true])
                                                     · exact hI.2.1.2.2.2.2.2.1.fr (by omega) (fun i a b => by simp (disch := omega) only [jset_k, jset_j, jset_same, true_and, and_true]) (fun i a b => by simp (disch := omega) only [jset_k, jset_j, jset_same, true_and, and_true]) (by simp (disch := omega) only [jset_k, jset_j, jset_same, true_and, and_true]; omega)
                                                     · exact hI.2.1.2.2.2.2.2.2.1.fr (by omega) (by simp (disch := omega) only [jset_k, jset_j, jset_same, true_and, and_true]) (fun i a b => by simp (disch := omega) only [jset_k, jset_j, jset_same, true_and, and_true])
                                                     · exact hI.2.1.2.2.2.2.2.2.2.1.fr (by omega) (fun i a b => by simp (disch := omega) only [jset_k, jset_j, jset_same, true_and, and_true]) (fun i a b => by simp (disch := omega) only [jset_k, jset_j, jset_same, true_and, and_true]) (by simp (disch := omega) only [jset_k, jset_j, jset_same, true_and, and_true]; omega)
                                                     · exact hI.2.1.2.2.2.2.2.2.2.2.1.fr (by omega) (fun i a b => by simp (disch := omega) only [jset_k, jset_j, jset_same, true_and, and_true])
                                                     · exact hI.2.1.2.2.2.2.2.2.2.2.2.1.fr (fun i a b => by simp (disch := omega) only [jset_k, jset_j, jset_same, true_and, and_true])
                                                     · exact hI.2.1.2.2.2.2.2.2.2.2.2.2.fr (fun i a b => by simp (disch := omega) only [jset_k, jset_j, jset_same, true_and, and_true])
                                                   · refine ⟨?_, ?_, ?_, ?_, ?_, ?_, ?_, ?_, ?_, ?_, ?_, ?_⟩
                                                     · have h := hC.cnt
                                                       unfold CCnt cv
                                                       simp (disch := omega) only [jset_k, jset_j, jset_same, true_and, and_true, Int.reduceAdd]
                                                       first | omega | exact h
                                                     · exact hI.2.2.1.2.1.fr hI.2.1.2.1 (by omega) (fun k j a b => by show _ = M (1 + k) j; unfold cv; simp (disch := omega) only [jset_k, jset_j, jset_same, true_and, and_true]) (fun i a b => by simp (disch := omega) only [jset_k, jset_j, jset_same, true_and, and_true])
                                                     · exact hI.2.2.1.2.2.1.fr hI.2.1.2.2.1 (by omega) (fun k j a b => by show _ = M (1 + k) j; unfold cv; simp (disch := omega) only [jset_k, jset_j, jset_same, true_and, and_true]) (fun i a b => by simp (disch := omega) only [jset_k, jset_j, jset_same, true_and, and_true])
                                                     · intro k h0 h1
                                                       simp (disch := omega) only [jset_k, jset_j, jset_same, true_and, and_true] at h1
                                                       simp only [cv1, Int.reduceAdd]
                                                       by_cases e : k < M 929 582
                                                       · have h := (hC.kind h0 e).1
                                                         simp (disch := omega) only [jset_k, jset_j, jset_same, true_and, and_true]
                                                         exact h
                                                       · have e2 : k = M 929 582 := by omega
                                                         subst e2
                                                         simp (disch := omega) only [jset_k, jset_j, jset_same, true_and, and_true]
                                                         all_goals (first | omega | simp)
                                                     · exact hI.2.2.1.2.2.2.2.1.fr (by omega) (fun k j a b => by show _ = M (1 + k) j; unfold cv; simp (disch := omega) only [jset_k, jset_j, jset_same, true_and, and_true]) (fun i a b => by simp (disch := omega) only [jset_k, jset_j, jset_same, true_and, and_true]) (fun i a b => by simp (disch := omega) only [jset_k, jset_j, jset_same, true_and, and_true])
                                                     · exact hI.2.2.1.2.2.2.2.2.1.fr (by omega) (fun k j a b => by show _ = M (1 + k) j; unfold cv; simp (disch := omega) only [jset_k, jset_j, jset_same, true_and, and_true]) (fun i a b => by simp (disch := omega) only [jset_k, jset_j, jset_same, true_and, and_true]) (fun i a b => by simp (disch := omega) only [jset_k, jset_j, jset_same, true_and, and_true])
                                                     · exact hI.2.2.1.2.2.2.2.2.2.1.fr (by omega) (fun k j a b => by show _ = M (1 + k) j; unfold cv; simp (disch := omega) only [jset_k, jset_j, jset_same, true_and, and_true]) (fun i a b => by simp (disch := omega) only [jset_k, jset_j, jset_same, true_and, and_true]) (fun i a b => by simp (disch := omega) only [jset_k, jset_j, jset_same, true_and, and_true])
                                                     · exact hI.2.2.1.2.2.2.2.2.2.2.1.fr (by omega) (fun k j a b => by show _ = M (1 + k) j; unfold cv; simp (disch := omega) only [jset_k, jset_j, jset_same, true_and, and_true]) (fun i a b => by simp (disch := omega) only [jset_k, jset_j, jset_same, true_and, and_true])
                                                     · exact hI.2.2.1.2.2.2.2.2.2.2.2.1.fr (fun k j a b => by show _ = M (1 + k) j; unfold cv; simp (disch := omega) only [jset_k, jset_j, jset_same, true_and, and_true]) (fun i a b => by simp (disch := omega) only [jset_k, jset_j, jset_same, true_and, and_true])
                                                     · exact hI.2.2.1.2.2.2.2.2.2.2.2.2.1.fr (fun k j a b => by show _ = M (1 + k) j; unfold cv; simp (disch := omega) only [jset_k, jset_j, jset_same, true_and, and_true]) (fun i a b => by simp (disch := omega) only [jset_k, jset_j, jset_same, true_and, and_true])
                                                     · exact hI.2.2.1.2.2.2.2.2.2.2.2.2.2.1.fr (by omega) (fun k j a b => by show _ = M (1 + k) j; unfold cv; simp (disch := omega) only [jset_k, jset_j, jset_same, true_and, and_true]) (fun i a b => by simp (disch := omega) only [jset_k, jset_j, jset_same, true_and, and_true])
                                                     · exact hI.2.2.1.2.2.2.2.2.2.2.2.2.2.2.fr hI.2.1.2.2.2.2.2.2.2.2.2.2 (fun k j a b => by show _ = M (1 + k) j; unfold cv; simp (disch := omega) only [jset_k, jset_j, jset_same, true_and, and_true]) (fun i a b => by simp (disch := omega) only [jset_k, jset_j, jset_same, true_and, and_true]))))
                                  · first
                                     | (exfalso; omega)
                                     | (skip
                                        refine e_bipush 77 dX12_kind_75 (by decide) rfl ?_
                                        refine e_iret dX12_kind_77 ?_
                                        first
                                          | (exact ⟨by omega, hI⟩)
                                          | (exfalso; omega)))
                            · dsimp only [jpush]
                              first
                               | (exfalso; omega)
                               | (skip
                                  refine e_if_ne 55 58 dX12_kind_52 (by decide) (by decide) rfl (fun h => absurd h (by decide)) (fun _ => ?_)
                                  refine e_bipush 57 dX12_kind_55 (by decide) rfl ?_
                                  refine e_iret dX12_kind_57 ?_
                                  first
                                    | (exact ⟨by omega, hI⟩)
                                    | (exfalso; omega)))
                      · dsimp only [jpush]
                        first
                         | (exfalso; omega)
                         | (skip
                            refine e_if_eq 42 55 dX12_kind_39 (by decide) (by decide) rfl (fun _ => ?_) (fun h => absurd h (by decide))
                            refine e_bipush 57 dX12_kind_55 (by decide) rfl ?_
                            refine e_iret dX12_kind_57 ?_
                            first
                              | (exact ⟨by omega, hI⟩)
                              | (exfalso; omega)))
                · dsimp only [jpush]
                  first
                   | (exfalso; omega)
                   | (skip
                      refine e_if_eq 29 55 dX12_kind_26 (by decide) (by decide) rfl (fun _ => ?_) (fun h => absurd h (by decide))
                      refine e_bipush 57 dX12_kind_55 (by decide) rfl ?_
                      refine e_iret dX12_kind_57 ?_
                      first
                        | (exact ⟨by omega, hI⟩)
                        | (exfalso; omega)))
          · dsimp only [jpush]
            first
             | (exfalso; omega)
             | (skip
                refine e_if_eq 17 55 dX12_kind_14 (by decide) (by decide) rfl (fun _ => ?_) (fun h => absurd h (by decide))
                refine e_bipush 57 dX12_kind_55 (by decide) rfl ?_
                refine e_iret dX12_kind_57 ?_
                first
                  | (exact ⟨by omega, hI⟩)
                  | (exfalso; omega))
      · dsimp only [jpush]
        refine e_if_eq 32 43 dX11_kind_29 (by decide) (by decide) rfl (fun _ => ?_) (fun h => absurd h (by decide))
        refine e_bipush 45 dX11_kind_43 (by decide) rfl ?_
        refine e_iret dX11_kind_45 ?_
        refine jCt_of mt_yX12_kind (Nat.le_of_ble_eq_true rfl) (fun X2 => ?_)
        refine e_aload_n (i := 0) 1 dX12_kind_0 rfl rfl rfl ?_
        refine e_iconst 2 dX12_kind_1 rfl ?_
        refine e_put0 (j := 0) 5 fl_12_1 dX12_kind_2 at_928 rfl rfl rfl (by decide) hI.1 rfl ?_
        refine e_iload_n (i := 1) 6 dX12_kind_5 rfl rfl rfl ?_
        refine e_i2l 7 dX12_kind_6 (by omega) rfl ?_
        refine e_lconst1 8 dX12_kind_7 rfl ?_
        refine e_ldc2 (z := (9)) 11 (ix := 209) wd_1495 (by decide) dX12_kind_8 rfl ?_
        refine e_callS 14 mt_yX12_within ms_yX12_within wd_1390 (by decide) dX12_kind_11 rfl rfl (Nat.le_of_ble_eq_true rfl) (jroom (by decide)) rfl (m_within (by omega) (by omega) (by omega) (fun w11 => ?_) (fun w11 => ?_))
        · dsimp only [jpush]
          first
           | (exfalso; omega)
           | (skip
              refine e_if_eq 17 55 dX12_kind_14 (by decide) (by decide) rfl (fun h => absurd h (by decide)) (fun _ => ?_)
              refine e_iload_n (i := 2) 18 dX12_kind_17 rfl rfl rfl ?_
              refine e_i2l 19 dX12_kind_18 (by omega) rfl ?_
              refine e_lconst1 20 dX12_kind_19 rfl ?_
              refine e_ldc2 (z := (999)) 23 (ix := 198) wd_1482 (by decide) dX12_kind_20 rfl ?_
              refine e_callS 26 mt_yX12_within ms_yX12_within wd_1390 (by decide) dX12_kind_23 rfl rfl (Nat.le_of_ble_eq_true rfl) (jroom (by decide)) rfl (m_within (by omega) (by omega) (by omega) (fun w23 => ?_) (fun w23 => ?_))
              · dsimp only [jpush]
                first
                 | (exfalso; omega)
                 | (skip
                    refine e_if_eq 29 55 dX12_kind_26 (by decide) (by decide) rfl (fun h => absurd h (by decide)) (fun _ => ?_)
                    refine e_iload_n (i := 3) 30 dX12_kind_29 rfl rfl rfl ?_
                    refine e_i2l 31 dX12_kind_30 (by omega) rfl ?_
                    refine e_iload_n (i := 2) 32 dX12_kind_31 rfl rfl rfl ?_
                    refine e_i2l 33 dX12_kind_32 (by omega) rfl ?_
                    refine e_ldc2 (z := (999)) 36 (ix := 198) wd_1482 (by decide) dX12_kind_33 rfl ?_
                    refine e_callS 39 mt_yX12_within ms_yX12_within wd_1390 (by decide) dX12_kind_36 rfl rfl (Nat.le_of_ble_eq_true rfl) (jroom (by decide)) rfl (m_within (by omega) (by omega) (by omega) (fun w36 => ?_) (fun w36 => ?_))
                    · dsimp only [jpush]
                      first
                       | (exfalso; omega)
                       | (skip
                          refine e_if_eq 42 55 dX12_kind_39 (by decide) (by decide) rfl (fun h => absurd h (by decide)) (fun _ => ?_)
                          refine e_iload 44 dX12_kind_42 rfl rfl ?_
                          refine e_i2l 45 dX12_kind_44 (by omega) rfl ?_
                          refine e_lconst0 46 dX12_kind_45 rfl ?_
                          refine e_ldc2 (z := (99)) 49 (ix := 211) wd_1496 (by decide) dX12_kind_46 rfl ?_
                          refine e_callS 52 mt_yX12_within ms_yX12_within wd_1390 (by decide) dX12_kind_49 rfl rfl (Nat.le_of_ble_eq_true rfl) (jroom (by decide)) rfl (m_within (by omega) (by omega) (by omega) (fun w49 => ?_) (fun w49 => ?_))
                          · dsimp only [jpush]
                            first
                             | (exfalso; omega)
                             | (skip
                                refine e_if_ne 55 58 dX12_kind_52 (by decide) (by decide) rfl (fun _ => ?_) (fun h => absurd h (by decide))
                                refine e_aload_n (i := 0) 59 dX12_kind_58 rfl rfl rfl ?_
                                refine e_getr (j := 1) 62 fl_12_13 dX12_kind_59 at_928 rfl rfl tp_928_1 rfl ?_
                                refine e_sipush 65 dX12_kind_62 (by decide) rfl ?_
                                refine e_iald 66 dX12_kind_65 ar_929 (by decide) (by decide) rfl (fun r65 => ?_)
                                refine e_istore (lsn := [(6, _), (0, _), (1, _), (2, _), (3, _), (4, _), (5, _)]) 68 dX12_kind_66 (by decide) rfl rfl ?_
                                refine e_iload 70 dX12_kind_68 rfl rfl ?_
                                refine e_bipush 72 dX12_kind_70 (by decide) rfl ?_
                                refine e_icmp_ne 75 78 dX12_kind_72 (by omega) (by decide) (by decide) rfl (fun b72 => ?_) (fun b72 => ?_)
                                · first
                                   | (exfalso; omega)
                                   | (skip
                                      refine e_aload_n (i := 0) 79 dX12_kind_78 rfl rfl rfl ?_
                                      refine e_getr (j := 1) 82 fl_12_13 dX12_kind_79 at_928 rfl rfl tp_928_1 rfl ?_
                                      refine e_sipush 85 dX12_kind_82 (by decide) rfl ?_
                                      refine e_iload 87 dX12_kind_85 rfl rfl ?_
                                      refine e_iadd 88 dX12_kind_87 rfl ?_
                                      refine e_iload_n (i := 1) 89 dX12_kind_88 rfl rfl rfl ?_
                                      refine e_iast 90 dX12_kind_89 ar_929 (by omega) (by omega) (by omega) rfl ?_
                                      refine e_aload_n (i := 0) 91 dX12_kind_90 rfl rfl rfl ?_
                                      refine e_getr (j := 1) 94 fl_12_13 dX12_kind_91 at_928 rfl rfl tp_928_1 rfl ?_
                                      refine e_sipush 97 dX12_kind_94 (by decide) rfl ?_
                                      refine e_iload 99 dX12_kind_97 rfl rfl ?_
                                      refine e_iadd 100 dX12_kind_99 rfl ?_
                                      refine e_iload_n (i := 2) 101 dX12_kind_100 rfl rfl rfl ?_
                                      refine e_iast 102 dX12_kind_101 ar_929 (by omega) (by omega) (by omega) rfl ?_
                                      refine e_aload_n (i := 0) 103 dX12_kind_102 rfl rfl rfl ?_
                                      refine e_getr (j := 1) 106 fl_12_13 dX12_kind_103 at_928 rfl rfl tp_928_1 rfl ?_
                                      refine e_sipush 109 dX12_kind_106 (by decide) rfl ?_
                                      refine e_iload 111 dX12_kind_109 rfl rfl ?_
                                      refine e_iadd 112 dX12_kind_111 rfl ?_
                                      refine e_iload_n (i := 3) 113 dX12_kind_112 rfl rfl rfl ?_
                                      refine e_iast 114 dX12_kind_113 ar_929 (by omega) (by omega) (by omega) rfl ?_
                                      refine e_aload_n (i := 0) 115 dX12_kind_114 rfl rfl rfl ?_
                                      refine e_getr (j := 1) 118 fl_12_13 dX12_kind_115 at_928 rfl rfl tp_928_1 rfl ?_
                                      refine e_sipush 121 dX12_kind_118 (by decide) rfl ?_
                                      refine e_iload 123 dX12_kind_121 rfl rfl ?_
                                      refine e_iadd 124 dX12_kind_123 rfl ?_
                                      refine e_iload 126 dX12_kind_124 rfl rfl ?_
                                      refine e_iast 127 dX12_kind_126 ar_929 (by omega) (by omega) (by omega) rfl ?_
                                      refine e_aload_n (i := 0) 128 dX12_kind_127 rfl rfl rfl ?_
                                      refine e_getr (j := 1) 131 fl_12_13 dX12_kind_128 at_928 rfl rfl tp_928_1 rfl ?_
                                      refine e_sipush 134 dX12_kind_131 (by decide) rfl ?_
                                      refine e_iload 136 dX12_kind_134 rfl rfl ?_
                                      refine e_iadd 137 dX12_kind_136 rfl ?_
                                      refine e_iload 139 dX12_kind_137 rfl rfl ?_
                                      refine e_if_eq 142 146 dX12_kind_139 (by omega) (by decide) rfl (fun b139 => ?_) (fun b139 => ?_)
                                      · first
                                         | (exfalso; omega)
                                         | (skip
                                            refine e_iconst 147 dX12_kind_146 rfl ?_
                                            refine e_iast 148 dX12_kind_147 ar_929 (by omega) (by omega) (by decide) rfl ?_
                                            refine e_aload_n (i := 0) 149 dX12_kind_148 rfl rfl rfl ?_
                                            refine e_getr (j := 1) 152 fl_12_13 dX12_kind_149 at_928 rfl rfl tp_928_1 rfl ?_
                                            refine e_sipush 155 dX12_kind_152 (by decide) rfl ?_
                                            refine e_dup2 156 dX12_kind_155 rfl rfl rfl ?_
                                            refine e_iald 157 dX12_kind_156 ar_929 (by decide) (by decide) rfl (fun r156 => ?_)
                                            simp (disch := omega) only [jset_k, jset_j, jset_same, true_and, and_true] at r156 ⊢
                                            refine e_iconst 158 dX12_kind_157 rfl ?_
                                            refine e_iadd 159 dX12_kind_158 rfl ?_
                                            refine e_iast 160 dX12_kind_159 ar_929 (by decide) (by decide) (by omega) rfl ?_
                                            refine e_iload 162 dX12_kind_160 rfl rfl ?_
                                            refine e_iret dX12_kind_162 ?_
                                            first
                                              | (exact ⟨by omega, hI⟩)
                                              | (exfalso; omega)
                                              | (refine ⟨by omega, ?_⟩
                                                 simp only [hn.1]
                                                 refine hI.live ?_ ?_ ?_
                                                 · repeat (first | exact Live.rf | refine Live.c ?_ (by omega) | refine Live.r ?_ (by omega) | refine Live.s ?_ (by omega))
                                                 · refine ⟨?_, ?_, ?_, ?_, ?_, ?_, ?_, ?_, ?_, ?_, ?_⟩
                                                   · have h := hI.2.1.1
                                                     unfold RCnt at h ⊢
                                                     simp (disch := omega) only [jset_k, jset_j, jset_same, true_and, and_true]
                                                     omega
                                                   · exact hI.2.1.2.1.fr (fun i a b => by simp (disch := omega) only [jset_k, jset_j, jset_same, true_and, and_true])
                                                   · exact hI.2.1.2.2.1.fr (fun i a b => by simp (disch := omega) only [jset_k, jset_j, jset_same, true_and, and_true])
                                                   · intro k h0 h1
                                                     simp (disch := omega) only [jset_k, jset_j, jset_same, true_and, and_true] at h1
                                                     by_cases e : k < M 929 582
                                                     · have h := hI.2.1.2.2.2.1 k h0 e
                                                       simp (disch := omega) only [jset_k, jset_j, jset_same, true_and, and_true]
                                                       exact h
                                                     · have e2 : k = M 929 582 := by omega
                                                       subst e2
                                                       simp (disch := omega) only [jset_k, jset_j, jset_same, true_and, and_true]
                                                       omega
                                                   · exact hI.2.1.2.2.2.2.1.fr (by omega) (fun i a b => by simp (disch := omega) only [jset_k, jset_j, jset_same, true_and, and_true]) (fun i a b => by simp (disch := omega) only [jset_k, jset_j, jset_same, true_and, and_true])
                                                   · exact hI.2.1.2.2.2.2.2.1.fr (by omega) (fun i a b => by simp (disch := omega) only [jset_k, jset_j, jset_same, true_and, and_true]) (fun i a b => by simp (disch := omega) only [jset_k, jset_j, jset_same, true_and, and_true]) (by simp (disch := omega) only [jset_k, jset_j, jset_same, true_and, and_true]; omega)
                                                   · exact hI.2.1.2.2.2.2.2.2.1.fr (by omega) (by simp (disch := omega) only [jset_k, jset_j, jset_same, true_and, and_true]) (fun i a b => by simp (disch := omega) only [jset_k, jset_j, jset_same, true_and, and_true])
                                                   · exact hI.2.1.2.2.2.2.2.2.2.1.fr (by omega) (fun i a b => by simp (disch := omega) only [jset_k, jset_j, jset_same, true_and, and_true]) (fun i a b => by simp (disch := omega) only [jset_k, jset_j, jset_same, true_and, and_true]) (by simp (disch := omega) only [jset_k, jset_j, jset_same, true_and, and_true]; omega)
                                                   · exact hI.2.1.2.2.2.2.2.2.2.2.1.fr (by omega) (fun i a b => by simp (disch := omega) only [jset_k, jset_j, jset_same, true_and, and_true])
                                                   · exact hI.2.1.2.2.2.2.2.2.2.2.2.1.fr (fun i a b => by simp (disch := omega) only [jset_k, jset_j, jset_same, true_and, and_true])
                                                   · exact hI.2.1.2.2.2.2.2.2.2.2.2.2.fr (fun i a b => by simp (disch := omega) only [jset_k, jset_j, jset_same, true_and, and_true])
                                                 · refine ⟨?_, ?_, ?_, ?_, ?_, ?_, ?_, ?_, ?_, ?_, ?_, ?_⟩
                                                   · have h := hC.cnt
                                                     unfold CCnt cv
                                                     simp (disch := omega) only [jset_k, jset_j, jset_same, true_and, and_true, Int.reduceAdd]
                                                     first | omega | exact h
                                                   · exact hI.2.2.1.2.1.fr hI.2.1.2.1 (by omega) (fun k j a b => by show _ = M (1 + k) j; unfold cv; simp (disch := omega) only [jset_k, jset_j, jset_same, true_and, and_true]) (fun i a b => by simp (disch := omega) only [jset_k, jset_j, jset_same, true_and, and_true])
                                                   · exact hI.2.2.1.2.2.1.fr hI.2.1.2.2.1 (by omega) (fun k j a b => by show _ = M (1 + k) j; unfold cv; simp (disch := omega) only [jset_k, jset_j, jset_same, true_and, and_true]) (fun i a b => by simp (disch := omega) only [jset_k, jset_j, jset_same, true_and, and_true])
                                                   · intro k h0 h1
                                                     simp (disch := omega) only [jset_k, jset_j, jset_same, true_and, and_true] at h1
                                                     simp only [cv1, Int.reduceAdd]
                                                     by_cases e : k < M 929 582
                                                     · have h := (hC.kind h0 e).1
                                                       simp (disch := omega) only [jset_k, jset_j, jset_same, true_and, and_true]
                                                       exact h
                                                     · have e2 : k = M 929 582 := by omega
                                                       subst e2
                                                       simp (disch := omega) only [jset_k, jset_j, jset_same, true_and, and_true]
                                                       all_goals (first | omega | simp)
                                                   · exact hI.2.2.1.2.2.2.2.1.fr (by omega) (fun k j a b => by show _ = M (1 + k) j; unfold cv; simp (disch := omega) only [jset_k, jset_j, jset_same, true_and, and_true]) (fun i a b => by simp (disch := omega) only [jset_k, jset_j, jset_same, true_and, and_true]) (fun i a b => by simp (disch := omega) only [jset_k, jset_j, jset_same, true_and, and_true])
                                                   · exact hI.2.2.1.2.2.2.2.2.1.fr (by omega) (fun k j a b => by show _ = M (1 + k) j; unfold cv; simp (disch := omega) only [jset_k, jset_j, jset_same, true_and, and_true]) (fun i a b => by simp (disch := omega) only [jset_k, jset_j, jset_same, true_and, and_true]) (fun i a b => by simp (disch := omega) only [jset_k, jset_j, jset_same, true_and, and_true])
                                                   · exact hI.2.2.1.2.2.2.2.2.2.1.fr (by omega) (fun k j a b => by show _ = M (1 + k) j; unfold cv; simp (disch := omega) only [jset_k, jset_j, jset_same, true_and, and_true]) (fun i a b => by simp (disch := omega) only [jset_k, jset_j, jset_same, true_and, and_true]) (fun i a b => by simp (disch := omega) only [jset_k, jset_j, jset_same, true_and, and_true])
                                                   · exact hI.2.2.1.2.2.2.2.2.2.2.1.fr (by omega) (fun k j a b => by show _ = M (1 + k) j; unfold cv; simp (disch := omega) only [jset_k, jset_j, jset_same, true_and, and_true]) (fun i a b => by simp (disch := omega) only [jset_k, jset_j, jset_same, true_and, and_true])
                                                   · exact hI.2.2.1.2.2.2.2.2.2.2.2.1.fr (fun k j a b => by show _ = M (1 + k) j; unfold cv; simp (disch := omega) only [jset_k, jset_j, jset_same, true_and, and_true]) (fun i a b => by simp (disch := omega) only [jset_k, jset_j, jset_same, true_and, and_true])
                                                   · exact hI.2.2.1.2.2.2.2.2.2.2.2.2.1.fr (fun k j a b => by show _ = M (1 + k) j; unfold cv; simp (disch := omega) only [jset_k, jset_j, jset_same, true_and, and_true]) (fun i a b => by simp (disch := omega) only [jset_k, jset_j, jset_same, true_and, and_true])
                                                   · exact hI.2.2.1.2.2.2.2.2.2.2.2.2.2.1.fr (by omega) (fun k j a b => by show _ = M (1 + k) j; unfold cv; simp (disch := omega) only [jset_k, jset_j, jset_same, true_and, and_true]) (fun i a b => by simp (disch := omega) only [jset_k, jset_j, jset_same, true_and, and_true])
                                                   · exact hI.2.2.1.2.2.2.2.2.2.2.2.2.2.2.fr hI.2.1.2.2.2.2.2.2.2.2.2.2 (fun k j a b => by show _ = M (1 + k) j; unfold cv; simp (disch := omega) only [jset_k, jset_j, jset_same, true_and, and_true]) (fun i a b => by simp (disch := omega) only [jset_k, jset_j, jset_same, true_and, and_true])))
                                      · first
                                         | (exfalso; omega)
                                         | (skip
                                            refine e_iconst 143 dX12_kind_142 rfl ?_
                                            refine e_goto 147 dX12_kind_143 (by decide) ?_
                                            refine e_iast 148 dX12_kind_147 ar_929 (by omega) (by omega) (by decide) rfl ?_
                                            refine e_aload_n (i := 0) 149 dX12_kind_148 rfl rfl rfl ?_
                                            refine e_getr (j := 1) 152 fl_12_13 dX12_kind_149 at_928 rfl rfl tp_928_1 rfl ?_
                                            refine e_sipush 155 dX12_kind_152 (by decide) rfl ?_
                                            refine e_dup2 156 dX12_kind_155 rfl rfl rfl ?_
                                            refine e_iald 157 dX12_kind_156 ar_929 (by decide) (by decide) rfl (fun r156 => ?_)
                                            simp (disch := omega) only [jset_k, jset_j, jset_same, true_and, and_true] at r156 ⊢
                                            refine e_iconst 158 dX12_kind_157 rfl ?_
                                            refine e_iadd 159 dX12_kind_158 rfl ?_
                                            refine e_iast 160 dX12_kind_159 ar_929 (by decide) (by decide) (by omega) rfl ?_
                                            refine e_iload 162 dX12_kind_160 rfl rfl ?_
                                            refine e_iret dX12_kind_162 ?_
                                            first
                                              | (exact ⟨by omega, hI⟩)
                                              | (exfalso; omega)
                                              | (refine ⟨by omega, ?_⟩
                                                 simp only [hn.1]
                                                 refine hI.live ?_ ?_ ?_
                                                 · repeat (first | exact Live.rf | refine Live.c ?_ (by omega) | refine Live.r ?_ (by omega) | refine Live.s ?_ (by omega))
                                                 · refine ⟨?_, ?_, ?_, ?_, ?_, ?_, ?_, ?_, ?_, ?_, ?_⟩
                                                   · have h := hI.2.1.1
                                                     unfold RCnt at h ⊢
                                                     simp (disch := omega) only [jset_k, jset_j, jset_same, true_and, and_true]
                                                     omega
                                                   · exact hI.2.1.2.1.fr (fun i a b => by simp (disch := omega) only [jset_k, jset_j, jset_same, true_and, and_true])
                                                   · exact hI.2.1.2.2.1.fr (fun i a b => by simp (disch := omega) only [jset_k, jset_j, jset_same, true_and, and_true])
                                                   · intro k h0 h1
                                                     simp (disch := omega) only [jset_k, jset_j, jset_same, true_and, and_true] at h1
                                                     by_cases e : k < M 929 582
                                                     · have h := hI.2.1.2.2.2.1 k h0 e
                                                       simp (disch := omega) only [jset_k, jset_j, jset_same, true_and, and_true]
                                                       exact h
                                                     · have e2 : k = M 929 582 := by omega
                                                       subst e2
                                                       simp (disch := omega) only [jset_k, jset_j, jset_same, true_and, and_true]
                                                       omega
                                                   · exact hI.2.1.2.2.2.2.1.fr (by omega) (fun i a b => by simp (disch := omega) only [jset_k, jset_j, jset_same, true_and, and_true]) (fun i a b => by simp (disch := omega) only [jset_k, jset_j, jset_same, true_and, and_true])
                                                   · exact hI.2.1.2.2.2.2.2.1.fr (by omega) (fun i a b => by simp (disch := omega) only [jset_k, jset_j, jset_same, true_and, and_true]) (fun i a b => by simp (disch := omega) only [jset_k, jset_j, jset_same, true_and, and_true]) (by simp (disch := omega) only [jset_k, jset_j, jset_same, true_and, and_true]; omega)
                                                   · exact hI.2.1.2.2.2.2.2.2.1.fr (by omega) (by simp (disch := omega) only [jset_k, jset_j, jset_same, true_and, and_true]) (fun i a b => by simp (disch := omega) only [jset_k, jset_j, jset_same, true_and, and_true])
                                                   · exact hI.2.1.2.2.2.2.2.2.2.1.fr (by omega) (fun i a b => by simp (disch := omega) only [jset_k, jset_j, jset_same, true_and, and_true]) (fun i a b => by simp (disch := omega) only [jset_k, jset_j, jset_same, true_and, and_true]) (by simp (disch := omega) only [jset_k, jset_j, jset_same, true_and, and_true]; omega)
                                                   · exact hI.2.1.2.2.2.2.2.2.2.2.1.fr (by omega) (fun i a b => by simp (disch := omega) only [jset_k, jset_j, jset_same, true_and, and_true])
                                                   · exact hI.2.1.2.2.2.2.2.2.2.2.2.1.fr (fun i a b => by simp (disch := omega) only [jset_k, jset_j, jset_same, true_and, and_true])
                                                   · exact hI.2.1.2.2.2.2.2.2.2.2.2.2.fr (fun i a b => by simp (disch := omega) only [jset_k, jset_j, jset_same, true_and, and_true])
                                                 · refine ⟨?_, ?_, ?_, ?_, ?_, ?_, ?_, ?_, ?_, ?_, ?_, ?_⟩
                                                   · have h := hC.cnt
                                                     unfold CCnt cv
                                                     simp (disch := omega) only [jset_k, jset_j, jset_same, true_and, and_true, Int.reduceAdd]
                                                     first | omega | exact h
                                                   · exact hI.2.2.1.2.1.fr hI.2.1.2.1 (by omega) (fun k j a b => by show _ = M (1 + k) j; unfold cv; simp (disch := omega) only [jset_k, jset_j, jset_same, true_and, and_true]) (fun i a b => by simp (disch := omega) only [jset_k, jset_j, jset_same, true_and, and_true])
                                                   · exact hI.2.2.1.2.2.1.fr hI.2.1.2.2.1 (by omega) (fun k j a b => by show _ = M (1 + k) j; unfold cv; simp (disch := omega) only [jset_k, jset_j, jset_same, true_and, and_true]) (fun i a b => by simp (disch := omega) only [jset_k, jset_j, jset_same, true_and, and_true])
                                                   · intro k h0 h1
                                                     simp (disch := omega) only [jset_k, jset_j, jset_same, true_and, and_true] at h1
                                                     simp only [cv1, Int.reduceAdd]
                                                     by_cases e : k < M 929 582
                                                     · have h := (hC.kind h0 e).1
                                                       simp (disch := omega) only [jset_k, jset_j, jset_same, true_and, and_true]
                                                       exact h
                                                     · have e2 : k = M 929 582 := by omega
                                                       subst e2
                                                       simp (disch := omega) only [jset_k, jset_j, jset_same, true_and, and_true]
                                                       all_goals (first | omega | simp)
                                                   · exact hI.2.2.1.2.2.2.2.1.fr (by omega) (fun k j a b => by show _ = M (1 + k) j; unfold cv; simp (disch := omega) only [jset_k, jset_j, jset_same, true_and, and_true]) (fun i a b => by simp (disch := omega) only [jset_k, jset_j, jset_same, true_and, and_true]) (fun i a b => by simp (disch := omega) only [jset_k, jset_j, jset_same, true_and, and_true])
                                                   · exact hI.2.2.1.2.2.2.2.2.1.fr (by omega) (fun k j a b => by show _ = M (1 + k) j; unfold cv; simp (disch := omega) only [jset_k, jset_j, jset_same, true_and, and_true]) (fun i a b => by simp (disch := omega) only [jset_k, jset_j, jset_same, true_and, and_true]) (fun i a b => by simp (disch := omega) only [jset_k, jset_j, jset_same, true_and, and_true])
                                                   · exact hI.2.2.1.2.2.2.2.2.2.1.fr (by omega) (fun k j a b => by show _ = M (1 + k) j; unfold cv; simp (disch := omega) only [jset_k, jset_j, jset_same, true_and, and_true]) (fun i a b => by simp (disch := omega) only [jset_k, jset_j, jset_same, true_and, and_true]) (fun i a b => by simp (disch := omega) only [jset_k, jset_j, jset_same, true_and, and_true])
                                                   · exact hI.2.2.1.2.2.2.2.2.2.2.1.fr (by omega) (fun k j a b => by show _ = M (1 + k) j; unfold cv; simp (disch := omega) only [jset_k, jset_j, jset_same, true_and, and_true]) (fun i a b => by simp (disch := omega) only [jset_k, jset_j, jset_same, true_and, and_true])
                                                   · exact hI.2.2.1.2.2.2.2.2.2.2.2.1.fr (fun k j a b => by show _ = M (1 + k) j; unfold cv; simp (disch := omega) only [jset_k, jset_j, jset_same, true_and, and_true]) (fun i a b => by simp (disch := omega) only [jset_k, jset_j, jset_same, true_and, and_true])
                                                   · exact hI.2.2.1.2.2.2.2.2.2.2.2.2.1.fr (fun k j a b => by show _ = M (1 + k) j; unfold cv; simp (disch := omega) only [jset_k, jset_j, jset_same, true_and, and_true]) (fun i a b => by simp (disch := omega) only [jset_k, jset_j, jset_same, true_and, and_true])
                                                   · exact hI.2.2.1.2.2.2.2.2.2.2.2.2.2.1.fr (by omega) (fun k j a b => by show _ = M (1 + k) j; unfold cv; simp (disch := omega) only [jset_k, jset_j, jset_same, true_and, and_true]) (fun i a b => by simp (disch := omega) only [jset_k, jset_j, jset_same, true_and, and_true])
                                                   · exact hI.2.2.1.2.2.2.2.2.2.2.2.2.2.2.fr hI.2.1.2.2.2.2.2.2.2.2.2.2 (fun k j a b => by show _ = M (1 + k) j; unfold cv; simp (disch := omega) only [jset_k, jset_j, jset_same, true_and, and_true]) (fun i a b => by simp (disch := omega) only [jset_k, jset_j, jset_same, true_and, and_true]))))
                                · first
                                   | (exfalso; omega)
                                   | (skip
                                      refine e_bipush 77 dX12_kind_75 (by decide) rfl ?_
                                      refine e_iret dX12_kind_77 ?_
                                      first
                                        | (exact ⟨by omega, hI⟩)
                                        | (exfalso; omega)))
                          · dsimp only [jpush]
                            first
                             | (exfalso; omega)
                             | (skip
                                refine e_if_ne 55 58 dX12_kind_52 (by decide) (by decide) rfl (fun h => absurd h (by decide)) (fun _ => ?_)
                                refine e_bipush 57 dX12_kind_55 (by decide) rfl ?_
                                refine e_iret dX12_kind_57 ?_
                                first
                                  | (exact ⟨by omega, hI⟩)
                                  | (exfalso; omega)))
                    · dsimp only [jpush]
                      first
                       | (exfalso; omega)
                       | (skip
                          refine e_if_eq 42 55 dX12_kind_39 (by decide) (by decide) rfl (fun _ => ?_) (fun h => absurd h (by decide))
                          refine e_bipush 57 dX12_kind_55 (by decide) rfl ?_
                          refine e_iret dX12_kind_57 ?_
                          first
                            | (exact ⟨by omega, hI⟩)
                            | (exfalso; omega)))
              · dsimp only [jpush]
                first
                 | (exfalso; omega)
                 | (skip
                    refine e_if_eq 29 55 dX12_kind_26 (by decide) (by decide) rfl (fun _ => ?_) (fun h => absurd h (by decide))
                    refine e_bipush 57 dX12_kind_55 (by decide) rfl ?_
                    refine e_iret dX12_kind_57 ?_
                    first
                      | (exact ⟨by omega, hI⟩)
                      | (exfalso; omega)))
        · dsimp only [jpush]
          first
           | (exfalso; omega)
           | (skip
              refine e_if_eq 17 55 dX12_kind_14 (by decide) (by decide) rfl (fun _ => ?_) (fun h => absurd h (by decide))
              refine e_bipush 57 dX12_kind_55 (by decide) rfl ?_
              refine e_iret dX12_kind_57 ?_
              first
                | (exact ⟨by omega, hI⟩)
                | (exfalso; omega))
    · dsimp only [jpush]
      refine e_if_eq 21 43 dX11_kind_18 (by decide) (by decide) rfl (fun _ => ?_) (fun h => absurd h (by decide))
      refine e_bipush 45 dX11_kind_43 (by decide) rfl ?_
      refine e_iret dX11_kind_45 ?_
      refine jCt_of mt_yX12_kind (Nat.le_of_ble_eq_true rfl) (fun X2 => ?_)
      refine e_aload_n (i := 0) 1 dX12_kind_0 rfl rfl rfl ?_
      refine e_iconst 2 dX12_kind_1 rfl ?_
      refine e_put0 (j := 0) 5 fl_12_1 dX12_kind_2 at_928 rfl rfl rfl (by decide) hI.1 rfl ?_
      refine e_iload_n (i := 1) 6 dX12_kind_5 rfl rfl rfl ?_
      refine e_i2l 7 dX12_kind_6 (by omega) rfl ?_
      refine e_lconst1 8 dX12_kind_7 rfl ?_
      refine e_ldc2 (z := (9)) 11 (ix := 209) wd_1495 (by decide) dX12_kind_8 rfl ?_
      refine e_callS 14 mt_yX12_within ms_yX12_within wd_1390 (by decide) dX12_kind_11 rfl rfl (Nat.le_of_ble_eq_true rfl) (jroom (by decide)) rfl (m_within (by omega) (by omega) (by omega) (fun w11 => ?_) (fun w11 => ?_))
      · dsimp only [jpush]
        first
         | (exfalso; omega)
         | (skip
            refine e_if_eq 17 55 dX12_kind_14 (by decide) (by decide) rfl (fun h => absurd h (by decide)) (fun _ => ?_)
            refine e_iload_n (i := 2) 18 dX12_kind_17 rfl rfl rfl ?_
            refine e_i2l 19 dX12_kind_18 (by omega) rfl ?_
            refine e_lconst1 20 dX12_kind_19 rfl ?_
            refine e_ldc2 (z := (999)) 23 (ix := 198) wd_1482 (by decide) dX12_kind_20 rfl ?_
            refine e_callS 26 mt_yX12_within ms_yX12_within wd_1390 (by decide) dX12_kind_23 rfl rfl (Nat.le_of_ble_eq_true rfl) (jroom (by decide)) rfl (m_within (by omega) (by omega) (by omega) (fun w23 => ?_) (fun w23 => ?_))
            · dsimp only [jpush]
              first
               | (exfalso; omega)
               | (skip
                  refine e_if_eq 29 55 dX12_kind_26 (by decide) (by decide) rfl (fun h => absurd h (by decide)) (fun _ => ?_)
                  refine e_iload_n (i := 3) 30 dX12_kind_29 rfl rfl rfl ?_
                  refine e_i2l 31 dX12_kind_30 (by omega) rfl ?_
                  refine e_iload_n (i := 2) 32 dX12_kind_31 rfl rfl rfl ?_
                  refine e_i2l 33 dX12_kind_32 (by omega) rfl ?_
                  refine e_ldc2 (z := (999)) 36 (ix := 198) wd_1482 (by decide) dX12_kind_33 rfl ?_
                  refine e_callS 39 mt_yX12_within ms_yX12_within wd_1390 (by decide) dX12_kind_36 rfl rfl (Nat.le_of_ble_eq_true rfl) (jroom (by decide)) rfl (m_within (by omega) (by omega) (by omega) (fun w36 => ?_) (fun w36 => ?_))
                  · dsimp only [jpush]
                    first
                     | (exfalso; omega)
                     | (skip
                        refine e_if_eq 42 55 dX12_kind_39 (by decide) (by decide) rfl (fun h => absurd h (by decide)) (fun _ => ?_)
                        refine e_iload 44 dX12_kind_42 rfl rfl ?_
                        refine e_i2l 45 dX12_kind_44 (by omega) rfl ?_
                        refine e_lconst0 46 dX12_kind_45 rfl ?_
                        refine e_ldc2 (z := (99)) 49 (ix := 211) wd_1496 (by decide) dX12_kind_46 rfl ?_
                        refine e_callS 52 mt_yX12_within ms_yX12_within wd_1390 (by decide) dX12_kind_49 rfl rfl (Nat.le_of_ble_eq_true rfl) (jroom (by decide)) rfl (m_within (by omega) (by omega) (by omega) (fun w49 => ?_) (fun w49 => ?_))
                        · dsimp only [jpush]
                          first
                           | (exfalso; omega)
                           | (skip
                              refine e_if_ne 55 58 dX12_kind_52 (by decide) (by decide) rfl (fun _ => ?_) (fun h => absurd h (by decide))
                              refine e_aload_n (i := 0) 59 dX12_kind_58 rfl rfl rfl ?_
                              refine e_getr (j := 1) 62 fl_12_13 dX12_kind_59 at_928 rfl rfl tp_928_1 rfl ?_
                              refine e_sipush 65 dX12_kind_62 (by decide) rfl ?_
                              refine e_iald 66 dX12_kind_65 ar_929 (by decide) (by decide) rfl (fun r65 => ?_)
                              refine e_istore (lsn := [(6, _), (0, _), (1, _), (2, _), (3, _), (4, _), (5, _)]) 68 dX12_kind_66 (by decide) rfl rfl ?_
                              refine e_iload 70 dX12_kind_68 rfl rfl ?_
                              refine e_bipush 72 dX12_kind_70 (by decide) rfl ?_
                              refine e_icmp_ne 75 78 dX12_kind_72 (by omega) (by decide) (by decide) rfl (fun b72 => ?_) (fun b72 => ?_)
                              · first
                                 | (exfalso; omega)
                                 | (skip
                                    refine e_aload_n (i := 0) 79 dX12_kind_78 rfl rfl rfl ?_
                                    refine e_getr (j := 1) 82 fl_12_13 dX12_kind_79 at_928 rfl rfl tp_928_1 rfl ?_
                                    refine e_sipush 85 dX12_kind_82 (by decide) rfl ?_
                                    refine e_iload 87 dX12_kind_85 rfl rfl ?_
                                    refine e_iadd 88 dX12_kind_87 rfl ?_
                                    refine e_iload_n (i := 1) 89 dX12_kind_88 rfl rfl rfl ?_
                                    refine e_iast 90 dX12_kind_89 ar_929 (by omega) (by omega) (by omega) rfl ?_
                                    refine e_aload_n (i := 0) 91 dX12_kind_90 rfl rfl rfl ?_
                                    refine e_getr (j := 1) 94 fl_12_13 dX12_kind_91 at_928 rfl rfl tp_928_1 rfl ?_
                                    refine e_sipush 97 dX12_kind_94 (by decide) rfl ?_
                                    refine e_iload 99 dX12_kind_97 rfl rfl ?_
                                    refine e_iadd 100 dX12_kind_99 rfl ?_
                                    refine e_iload_n (i := 2) 101 dX12_kind_100 rfl rfl rfl ?_
                                    refine e_iast 102 dX12_kind_101 ar_929 (by omega) (by omega) (by omega) rfl ?_
                                    refine e_aload_n (i := 0) 103 dX12_kind_102 rfl rfl rfl ?_
                                    refine e_getr (j := 1) 106 fl_12_13 dX12_kind_103 at_928 rfl rfl tp_928_1 rfl ?_
                                    refine e_sipush 109 dX12_kind_106 (by decide) rfl ?_
                                    refine e_iload 111 dX12_kind_109 rfl rfl ?_
                                    refine e_iadd 112 dX12_kind_111 rfl ?_
                                    refine e_iload_n (i := 3) 113 dX12_kind_112 rfl rfl rfl ?_
                                    refine e_iast 114 dX12_kind_113 ar_929 (by omega) (by omega) (by omega) rfl ?_
                                    refine e_aload_n (i := 0) 115 dX12_kind_114 rfl rfl rfl ?_
                                    refine e_getr (j := 1) 118 fl_12_13 dX12_kind_115 at_928 rfl rfl tp_928_1 rfl ?_
                                    refine e_sipush 121 dX12_kind_118 (by decide) rfl ?_
                                    refine e_iload 123 dX12_kind_121 rfl rfl ?_
                                    refine e_iadd 124 dX12_kind_123 rfl ?_
                                    refine e_iload 126 dX12_kind_124 rfl rfl ?_
                                    refine e_iast 127 dX12_kind_126 ar_929 (by omega) (by omega) (by omega) rfl ?_
                                    refine e_aload_n (i := 0) 128 dX12_kind_127 rfl rfl rfl ?_
                                    refine e_getr (j := 1) 131 fl_12_13 dX12_kind_128 at_928 rfl rfl tp_928_1 rfl ?_
                                    refine e_sipush 134 dX12_kind_131 (by decide) rfl ?_
                                    refine e_iload 136 dX12_kind_134 rfl rfl ?_
                                    refine e_iadd 137 dX12_kind_136 rfl ?_
                                    refine e_iload 139 dX12_kind_137 rfl rfl ?_
                                    refine e_if_eq 142 146 dX12_kind_139 (by omega) (by decide) rfl (fun b139 => ?_) (fun b139 => ?_)
                                    · first
                                       | (exfalso; omega)
                                       | (skip
                                          refine e_iconst 147 dX12_kind_146 rfl ?_
                                          refine e_iast 148 dX12_kind_147 ar_929 (by omega) (by omega) (by decide) rfl ?_
                                          refine e_aload_n (i := 0) 149 dX12_kind_148 rfl rfl rfl ?_
                                          refine e_getr (j := 1) 152 fl_12_13 dX12_kind_149 at_928 rfl rfl tp_928_1 rfl ?_
                                          refine e_sipush 155 dX12_kind_152 (by decide) rfl ?_
                                          refine e_dup2 156 dX12_kind_155 rfl rfl rfl ?_
                                          refine e_iald 157 dX12_kind_156 ar_929 (by decide) (by decide) rfl (fun r156 => ?_)
                                          simp (disch := omega) only [jset_k, jset_j, jset_same, true_and, and_true] at r156 ⊢
                                          refine e_iconst 158 dX12_kind_157 rfl ?_
                                          refine e_iadd 159 dX12_kind_158 rfl ?_
                                          refine e_iast 160 dX12_kind_159 ar_929 (by decide) (by decide) (by omega) rfl ?_
                                          refine e_iload 162 dX12_kind_160 rfl rfl ?_
                                          refine e_iret dX12_kind_162 ?_
                                          first
                                            | (exact ⟨by omega, hI⟩)
                                            | (exfalso; omega)
                                            | (refine ⟨by omega, ?_⟩
                                               simp only [hn.1]
                                               refine hI.live ?_ ?_ ?_
                                               · repeat (first | exact Live.rf | refine Live.c ?_ (by omega) | refine Live.r ?_ (by omega) | refine Live.s ?_ (by omega))
                                               · refine ⟨?_, ?_, ?_, ?_, ?_, ?_, ?_, ?_, ?_, ?_, ?_⟩
                                                 · have h := hI.2.1.1
                                                   unfold RCnt at h ⊢
                                                   simp (disch := omega) only [jset_k, jset_j, jset_same, true_and, and_true]
                                                   omega
                                                 · exact hI.2.1.2.1.fr (fun i a b => by simp (disch := omega) only [jset_k, jset_j, jset_same, true_and, and_true])
                                                 · exact hI.2.1.2.2.1.fr (fun i a b => by simp (disch := omega) only [jset_k, jset_j, jset_same, true_and, and_true])
                                                 · intro k h0 h1
                                                   simp (disch := omega) only [jset_k, jset_j, jset_same, true_and, and_true] at h1
                                                   by_cases e : k < M 929 582
                                                   · have h := hI.2.1.2.2.2.1 k h0 e
                                                     simp (disch := omega) only [jset_k, jset_j, jset_same, true_and, and_true]
                                                     exact h
                                                   · have e2 : k = M 929 582 := by omega
                                                     subst e2
                                                     simp (disch := omega) only [jset_k, jset_j, jset_same, true_and, and_true]
                                                     omega
                                                 · exact hI.2.1.2.2.2.2.1.fr (by omega) (fun i a b => by simp (disch := omega) only [jset_k, jset_j, jset_same, true_and, and_true]) (fun i a b => by simp (disch := omega) only [jset_k, jset_j, jset_same, true_and, and_true])
                                                 · exact hI.2.1.2.2.2.2.2.1.fr (by omega) (fun i a b => by simp (disch := omega) only [jset_k, jset_j, jset_same, true_and, and_true]) (fun i a b => by simp (disch := omega) only [jset_k, jset_j, jset_same, true_and, and_true]) (by simp (disch := omega) only [jset_k, jset_j, jset_same, true_and, and_true]; omega)
                                                 · exact hI.2.1.2.2.2.2.2.2.1.fr (by omega) (by simp (disch := omega) only [jset_k, jset_j, jset_same, true_and, and_true]) (fun i a b => by simp (disch := omega) only [jset_k, jset_j, jset_same, true_and, and_true])
                                                 · exact hI.2.1.2.2.2.2.2.2.2.1.fr (by omega) (fun i a b => by simp (disch := omega) only [jset_k, jset_j, jset_same, true_and, and_true]) (fun i a b => by simp (disch := omega) only [jset_k, jset_j, jset_same, true_and, and_true]) (by simp (disch := omega) only [jset_k, jset_j, jset_same, true_and, and_true]; omega)
                                                 · exact hI.2.1.2.2.2.2.2.2.2.2.1.fr (by omega) (fun i a b => by simp (disch := omega) only [jset_k, jset_j, jset_same, true_and, and_true])
                                                 · exact hI.2.1.2.2.2.2.2.2.2.2.2.1.fr (fun i a b => by simp (disch := omega) only [jset_k, jset_j, jset_same, true_and, and_true])
                                                 · exact hI.2.1.2.2.2.2.2.2.2.2.2.2.fr (fun i a b => by simp (disch := omega) only [jset_k, jset_j, jset_same, true_and, and_true])
                                               · refine ⟨?_, ?_, ?_, ?_, ?_, ?_, ?_, ?_, ?_, ?_, ?_, ?_⟩
                                                 · have h := hC.cnt
                                                   unfold CCnt cv
                                                   simp (disch := omega) only [jset_k, jset_j, jset_same, true_and, and_true, Int.reduceAdd]
                                                   first | omega | exact h
                                                 · exact hI.2.2.1.2.1.fr hI.2.1.2.1 (by omega) (fun k j a b => by show _ = M (1 + k) j; unfold cv; simp (disch := omega) only [jset_k, jset_j, jset_same, true_and, and_true]) (fun i a b => by simp (disch := omega) only [jset_k, jset_j, jset_same, true_and, and_true])
                                                 · exact hI.2.2.1.2.2.1.fr hI.2.1.2.2.1 (by omega) (fun k j a b => by show _ = M (1 + k) j; unfold cv; simp (disch := omega) only [jset_k, jset_j, jset_same, true_and, and_true]) (fun i a b => by simp (disch := omega) only [jset_k, jset_j, jset_same, true_and, and_true])
                                                 · intro k h0 h1
                                                   simp (disch := omega) only [jset_k, jset_j, jset_same, true_and, and_true] at h1
                                                   simp only [cv1, Int.reduceAdd]
                                                   by_cases e : k < M 929 582
                                                   · have h := (hC.kind h0 e).1
                                                     simp (disch := omega) only [jset_k, jset_j, jset_same, true_and, and_true]
                                                     exact h
                                                   · have e2 : k = M 929 582 := by omega
                                                     subst e2
                                                     simp (disch := omega) only [jset_k, jset_j, jset_same, true_and, and_true]
                                                     all_goals (first | omega | simp)
                                                 · exact hI.2.2.1.2.2.2.2.1.fr (by omega) (fun k j a b => by show _ = M (1 + k) j; unfold cv; simp (disch := omega) only [jset_k, jset_j, jset_same, true_and, and_true]) (fun i a b => by simp (disch := omega) only [jset_k, jset_j, jset_same, true_and, and_true]) (fun i a b => by simp (disch := omega) only [jset_k, jset_j, jset_same, true_and, and_true])
                                                 · exact hI.2.2.1.2.2.2.2.2.1.fr (by omega) (fun k j a b => by show _ = M (1 + k) j; unfold cv; simp (disch := omega) only [jset_k, jset_j, jset_same, true_and, and_true]) (fun i a b => by simp (disch := omega) only [jset_k, jset_j, jset_same, true_and, and_true]) (fun i a b => by simp (disch := omega) only [jset_k, jset_j, jset_same, true_and, and_true])
                                                 · exact hI.2.2.1.2.2.2.2.2.2.1.fr (by omega) (fun k j a b => by show _ = M (1 + k) j; unfold cv; simp (disch := omega) only [jset_k, jset_j, jset_same, true_and, and_true]) (fun i a b => by simp (disch := omega) only [jset_k, jset_j, jset_same, true_and, and_true]) (fun i a b => by simp (disch := omega) only [jset_k, jset_j, jset_same, true_and, and_true])
                                                 · exact hI.2.2.1.2.2.2.2.2.2.2.1.fr (by omega) (fun k j a b => by show _ = M (1 + k) j; unfold cv; simp (disch := omega) only [jset_k, jset_j, jset_same, true_and, and_true]) (fun i a b => by simp (disch := omega) only [jset_k, jset_j, jset_same, true_and, and_true])
                                                 · exact hI.2.2.1.2.2.2.2.2.2.2.2.1.fr (fun k j a b => by show _ = M (1 + k) j; unfold cv; simp (disch := omega) only [jset_k, jset_j, jset_same, true_and, and_true]) (fun i a b => by simp (disch := omega) only [jset_k, jset_j, jset_same, true_and, and_true])
                                                 · exact hI.2.2.1.2.2.2.2.2.2.2.2.2.1.fr (fun k j a b => by show _ = M (1 + k) j; unfold cv; simp (disch := omega) only [jset_k, jset_j, jset_same, true_and, and_true]) (fun i a b => by simp (disch := omega) only [jset_k, jset_j, jset_same, true_and, and_true])
                                                 · exact hI.2.2.1.2.2.2.2.2.2.2.2.2.2.1.fr (by omega) (fun k j a b => by show _ = M (1 + k) j; unfold cv; simp (disch := omega) only [jset_k, jset_j, jset_same, true_and, and_true]) (fun i a b => by simp (disch := omega) only [jset_k, jset_j, jset_same, true_and, and_true])
                                                 · exact hI.2.2.1.2.2.2.2.2.2.2.2.2.2.2.fr hI.2.1.2.2.2.2.2.2.2.2.2.2 (fun k j a b => by show _ = M (1 + k) j; unfold cv; simp (disch := omega) only [jset_k, jset_j, jset_same, true_and, and_true]) (fun i a b => by simp (disch := omega) only [jset_k, jset_j, jset_same, true_and, and_true])))
                                    · first
                                       | (exfalso; omega)
                                       | (skip
                                          refine e_iconst 143 dX12_kind_142 rfl ?_
                                          refine e_goto 147 dX12_kind_143 (by decide) ?_
                                          refine e_iast 148 dX12_kind_147 ar_929 (by omega) (by omega) (by decide) rfl ?_
                                          refine e_aload_n (i := 0) 149 dX12_kind_148 rfl rfl rfl ?_
                                          refine e_getr (j := 1) 152 fl_12_13 dX12_kind_149 at_928 rfl rfl tp_928_1 rfl ?_
                                          refine e_sipush 155 dX12_kind_152 (by decide) rfl ?_
                                          refine e_dup2 156 dX12_kind_155 rfl rfl rfl ?_
                                          refine e_iald 157 dX12_kind_156 ar_929 (by decide) (by decide) rfl (fun r156 => ?_)
                                          simp (disch := omega) only [jset_k, jset_j, jset_same, true_and, and_true] at r156 ⊢
                                          refine e_iconst 158 dX12_kind_157 rfl ?_
                                          refine e_iadd 159 dX12_kind_158 rfl ?_
                                          refine e_iast 160 dX12_kind_159 ar_929 (by decide) (by decide) (by omega) rfl ?_
                                          refine e_iload 162 dX12_kind_160 rfl rfl ?_
                                          refine e_iret dX12_kind_162 ?_
                                          first
                                            | (exact ⟨by omega, hI⟩)
                                            | (exfalso; omega)
                                            | (refine ⟨by omega, ?_⟩
                                               simp only [hn.1]
                                               refine hI.live ?_ ?_ ?_
                                               · repeat (first | exact Live.rf | refine Live.c ?_ (by omega) | refine Live.r ?_ (by omega) | refine Live.s ?_ (by omega))
                                               · refine ⟨?_, ?_, ?_, ?_, ?_, ?_, ?_, ?_, ?_, ?_, ?_⟩
                                                 · have h := hI.2.1.1
                                                   unfold RCnt at h ⊢
                                                   simp (disch := omega) only [jset_k, jset_j, jset_same, true_and, and_true]
                                                   omega
                                                 · exact hI.2.1.2.1.fr (fun i a b => by simp (disch := omega) only [jset_k, jset_j, jset_same, true_and, and_true])
                                                 · exact hI.2.1.2.2.1.fr (fun i a b => by simp (disch := omega) only [jset_k, jset_j, jset_same, true_and, and_true])
                                                 · intro k h0 h1
                                                   simp (disch := omega) only [jset_k, jset_j, jset_same, true_and, and_true] at h1
                                                   by_cases e : k < M 929 582
                                                   · have h := hI.2.1.2.2.2.1 k h0 e
                                                     simp (disch := omega) only [jset_k, jset_j, jset_same, true_and, and_true]
                                                     exact h
                                                   · have e2 : k = M 929 582 := by omega
                                                     subst e2
                                                     simp (disch := omega) only [jset_k, jset_j, jset_same, true_and, and_true]
                                                     omega
                                                 · exact hI.2.1.2.2.2.2.1.fr (by omega) (fun i a b => by simp (disch := omega) only [jset_k, jset_j, jset_same, true_and, and_true]) (fun i a b => by simp (disch := omega) only [jset_k, jset_j, jset_same, true_and, and_true])
                                                 · exact hI.2.1.2.2.2.2.2.1.fr (by omega) (fun i a b => by simp (disch := omega) only [jset_k, jset_j, jset_same, true_and, and_true]) (fun i a b => by simp (disch := omega) only [jset_k, jset_j, jset_same, true_and, and_true]) (by simp (disch := omega) only [jset_k, jset_j, jset_same, true_and, and_true]; omega)
                                                 · exact hI.2.1.2.2.2.2.2.2.1.fr (by omega) (by simp (disch := omega) only [jset_k, jset_j, jset_same, true_and, and_true]) (fun i a b => by simp (disch := omega) only [jset_k, jset_j, jset_same, true_and, and_true])
                                                 · exact hI.2.1.2.2.2.2.2.2.2.1.fr (by omega) (fun i a b => by simp (disch := omega) only [jset_k, jset_j, jset_same, true_and, and_true]) (fun i a b => by simp (disch := omega) only [jset_k, jset_j, jset_same, true_and, and_true]) (by simp (disch := omega) only [jset_k, jset_j, jset_same, true_and, and_true]; omega)
                                                 · exact hI.2.1.2.2.2.2.2.2.2.2.1.fr (by omega) (fun i a b => by simp (disch := omega) only [jset_k, jset_j, jset_same, true_and, and_true])
                                                 · exact hI.2.1.2.2.2.2.2.2.2.2.2.1.fr (fun i a b => by simp (disch := omega) only [jset_k, jset_j, jset_same, true_and, and_true])
                                                 · exact hI.2.1.2.2.2.2.2.2.2.2.2.2.fr (fun i a b => by simp (disch := omega) only [jset_k, jset_j, jset_same, true_and, and_true])
                                               · refine ⟨?_, ?_, ?_, ?_, ?_, ?_, ?_, ?_, ?_, ?_, ?_, ?_⟩
                                                 · have h := hC.cnt
                                                   unfold CCnt cv
                                                   simp (disch := omega) only [jset_k, jset_j, jset_same, true_and, and_true, Int.reduceAdd]
                                                   first | omega | exact h
                                                 · exact hI.2.2.1.2.1.fr hI.2.1.2.1 (by omega) (fun k j a b => by show _ = M (1 + k) j; unfold cv; simp (disch := omega) only [jset_k, jset_j, jset_same, true_and, and_true]) (fun i a b => by simp (disch := omega) only [jset_k, jset_j, jset_same, true_and, and_true])
                                                 · exact hI.2.2.1.2.2.1.fr hI.2.1.2.2.1 (by omega) (fun k j a b => by show _ = M (1 + k) j; unfold cv; simp (disch := omega) only [jset_k, jset_j, jset_same, true_and, and_true]) (fun i a b => by simp (disch := omega) only [jset_k, jset_j, jset_same, true_and, and_true])
                                                 · intro k h0 h1
                                                   simp (disch := omega) only [jset_k, jset_j, jset_same, true_and, and_true] at h1
                                                   simp only [cv1, Int.reduceAdd]
                                                   by_cases e : k < M 929 582
                                                   · have h := (hC.kind h0 e).1
                                                     simp (disch := omega) only [jset_k, jset_j, jset_same, true_and, and_true]
                                                     exact h
                                                   · have e2 : k = M 929 582 := by omega
                                                     subst e2
                                                     simp (disch := omega) only [jset_k, jset_j, jset_same, true_and, and_true]
                                                     all_goals (first | omega | simp)
                                                 · exact hI.2.2.1.2.2.2.2.1.fr (by omega) (fun k j a b => by show _ = M (1 + k) j; unfold cv; simp (disch := omega) only [jset_k, jset_j, jset_same, true_and, and_true]) (fun i a b => by simp (disch := omega) only [jset_k, jset_j, jset_same, true_and, and_true]) (fun i a b => by simp (disch := omega) only [jset_k, jset_j, jset_same, true_and, and_true])
                                                 · exact hI.2.2.1.2.2.2.2.2.1.fr (by omega) (fun k j a b => by show _ = M (1 + k) j; unfold cv; simp (disch := omega) only [jset_k, jset_j, jset_same, true_and, and_true]) (fun i a b => by simp (disch := omega) only [jset_k, jset_j, jset_same, true_and, and_true]) (fun i a b => by simp (disch := omega) only [jset_k, jset_j, jset_same, true_and, and_true])
                                                 · exact hI.2.2.1.2.2.2.2.2.2.1.fr (by omega) (fun k j a b => by show _ = M (1 + k) j; unfold cv; simp (disch := omega) only [jset_k, jset_j, jset_same, true_and, and_true]) (fun i a b => by simp (disch := omega) only [jset_k, jset_j, jset_same, true_and, and_true]) (fun i a b => by simp (disch := omega) only [jset_k, jset_j, jset_same, true_and, and_true])
                                                 · exact hI.2.2.1.2.2.2.2.2.2.2.1.fr (by omega) (fun k j a b => by show _ = M (1 + k) j; unfold cv; simp (disch := omega) only [jset_k, jset_j, jset_same, true_and, and_true]) (fun i a b => by simp (disch := omega) only [jset_k, jset_j, jset_same, true_and, and_true])
                                                 · exact hI.2.2.1.2.2.2.2.2.2.2.2.1.fr (fun k j a b => by show _ = M (1 + k) j; unfold cv; simp (disch := omega) only [jset_k, jset_j, jset_same, true_and, and_true]) (fun i a b => by simp (disch := omega) only [jset_k, jset_j, jset_same, true_and, and_true])
                                                 · exact hI.2.2.1.2.2.2.2.2.2.2.2.2.1.fr (fun k j a b => by show _ = M (1 + k) j; unfold cv; simp (disch := omega) only [jset_k, jset_j, jset_same, true_and, and_true]) (fun i a b => by simp (disch := omega) only [jset_k, jset_j, jset_same, true_and, and_true])
                                                 · exact hI.2.2.1.2.2.2.2.2.2.2.2.2.2.1.fr (by omega) (fun k j a b => by show _ = M (1 + k) j; unfold cv; simp (disch := omega) only [jset_k, jset_j, jset_same, true_and, and_true]) (fun i a b => by simp (disch := omega) only [jset_k, jset_j, jset_same, true_and, and_true])
                                                 · exact hI.2.2.1.2.2.2.2.2.2.2.2.2.2.2.fr hI.2.1.2.2.2.2.2.2.2.2.2.2 (fun k j a b => by show _ = M (1 + k) j; unfold cv; simp (disch := omega) only [jset_k, jset_j, jset_same, true_and, and_true]) (fun i a b => by simp (disch := omega) only [jset_k, jset_j, jset_same, true_and, and_true]))))
                              · first
                                 | (exfalso; omega)
                                 | (skip
                                    refine e_bipush 77 dX12_kind_75 (by decide) rfl ?_
                                    refine e_iret dX12_kind_77 ?_
                                    first
                                      | (exact ⟨by omega, hI⟩)
                                      | (exfalso; omega)))
                        · dsimp only [jpush]
                          first
                           | (exfalso; omega)
                           | (skip
                              refine e_if_ne 55 58 dX12_kind_52 (by decide) (by decide) rfl (fun h => absurd h (by decide)) (fun _ => ?_)
                              refine e_bipush 57 dX12_kind_55 (by decide) rfl ?_
                              refine e_iret dX12_kind_57 ?_
                              first
                                | (exact ⟨by omega, hI⟩)
                                | (exfalso; omega)))
                  · dsimp only [jpush]
                    first
                     | (exfalso; omega)
                     | (skip
                        refine e_if_eq 42 55 dX12_kind_39 (by decide) (by decide) rfl (fun _ => ?_) (fun h => absurd h (by decide))
                        refine e_bipush 57 dX12_kind_55 (by decide) rfl ?_
                        refine e_iret dX12_kind_57 ?_
                        first
                          | (exact ⟨by omega, hI⟩)
                          | (exfalso; omega)))
            · dsimp only [jpush]
              first
               | (exfalso; omega)
               | (skip
                  refine e_if_eq 29 55 dX12_kind_26 (by decide) (by decide) rfl (fun _ => ?_) (fun h => absurd h (by decide))
                  refine e_bipush 57 dX12_kind_55 (by decide) rfl ?_
                  refine e_iret dX12_kind_57 ?_
                  first
                    | (exact ⟨by omega, hI⟩)
                    | (exfalso; omega)))
      · dsimp only [jpush]
        first
         | (exfalso; omega)
         | (skip
            refine e_if_eq 17 55 dX12_kind_14 (by decide) (by decide) rfl (fun _ => ?_) (fun h => absurd h (by decide))
            refine e_bipush 57 dX12_kind_55 (by decide) rfl ?_
            refine e_iret dX12_kind_57 ?_
            first
              | (exact ⟨by omega, hI⟩)
              | (exfalso; omega))
  · dsimp only [jpush]
    refine e_if_eq 10 43 dX11_kind_7 (by decide) (by decide) rfl (fun _ => ?_) (fun h => absurd h (by decide))
    refine e_bipush 45 dX11_kind_43 (by decide) rfl ?_
    refine e_iret dX11_kind_45 ?_
    refine jCt_of mt_yX12_kind (Nat.le_of_ble_eq_true rfl) (fun X2 => ?_)
    refine e_aload_n (i := 0) 1 dX12_kind_0 rfl rfl rfl ?_
    refine e_iconst 2 dX12_kind_1 rfl ?_
    refine e_put0 (j := 0) 5 fl_12_1 dX12_kind_2 at_928 rfl rfl rfl (by decide) hI.1 rfl ?_
    refine e_iload_n (i := 1) 6 dX12_kind_5 rfl rfl rfl ?_
    refine e_i2l 7 dX12_kind_6 (by omega) rfl ?_
    refine e_lconst1 8 dX12_kind_7 rfl ?_
    refine e_ldc2 (z := (9)) 11 (ix := 209) wd_1495 (by decide) dX12_kind_8 rfl ?_
    refine e_callS 14 mt_yX12_within ms_yX12_within wd_1390 (by decide) dX12_kind_11 rfl rfl (Nat.le_of_ble_eq_true rfl) (jroom (by decide)) rfl (m_within (by omega) (by omega) (by omega) (fun w11 => ?_) (fun w11 => ?_))
    · dsimp only [jpush]
      first
       | (exfalso; omega)
       | (skip
          refine e_if_eq 17 55 dX12_kind_14 (by decide) (by decide) rfl (fun h => absurd h (by decide)) (fun _ => ?_)
          refine e_iload_n (i := 2) 18 dX12_kind_17 rfl rfl rfl ?_
          refine e_i2l 19 dX12_kind_18 (by omega) rfl ?_
          refine e_lconst1 20 dX12_kind_19 rfl ?_
          refine e_ldc2 (z := (999)) 23 (ix := 198) wd_1482 (by decide) dX12_kind_20 rfl ?_
          refine e_callS 26 mt_yX12_within ms_yX12_within wd_1390 (by decide) dX12_kind_23 rfl rfl (Nat.le_of_ble_eq_true rfl) (jroom (by decide)) rfl (m_within (by omega) (by omega) (by omega) (fun w23 => ?_) (fun w23 => ?_))
          · dsimp only [jpush]
            first
             | (exfalso; omega)
             | (skip
                refine e_if_eq 29 55 dX12_kind_26 (by decide) (by decide) rfl (fun h => absurd h (by decide)) (fun _ => ?_)
                refine e_iload_n (i := 3) 30 dX12_kind_29 rfl rfl rfl ?_
                refine e_i2l 31 dX12_kind_30 (by omega) rfl ?_
                refine e_iload_n (i := 2) 32 dX12_kind_31 rfl rfl rfl ?_
                refine e_i2l 33 dX12_kind_32 (by omega) rfl ?_
                refine e_ldc2 (z := (999)) 36 (ix := 198) wd_1482 (by decide) dX12_kind_33 rfl ?_
                refine e_callS 39 mt_yX12_within ms_yX12_within wd_1390 (by decide) dX12_kind_36 rfl rfl (Nat.le_of_ble_eq_true rfl) (jroom (by decide)) rfl (m_within (by omega) (by omega) (by omega) (fun w36 => ?_) (fun w36 => ?_))
                · dsimp only [jpush]
                  first
                   | (exfalso; omega)
                   | (skip
                      refine e_if_eq 42 55 dX12_kind_39 (by decide) (by decide) rfl (fun h => absurd h (by decide)) (fun _ => ?_)
                      refine e_iload 44 dX12_kind_42 rfl rfl ?_
                      refine e_i2l 45 dX12_kind_44 (by omega) rfl ?_
                      refine e_lconst0 46 dX12_kind_45 rfl ?_
                      refine e_ldc2 (z := (99)) 49 (ix := 211) wd_1496 (by decide) dX12_kind_46 rfl ?_
                      refine e_callS 52 mt_yX12_within ms_yX12_within wd_1390 (by decide) dX12_kind_49 rfl rfl (Nat.le_of_ble_eq_true rfl) (jroom (by decide)) rfl (m_within (by omega) (by omega) (by omega) (fun w49 => ?_) (fun w49 => ?_))
                      · dsimp only [jpush]
                        first
                         | (exfalso; omega)
                         | (skip
                            refine e_if_ne 55 58 dX12_kind_52 (by decide) (by decide) rfl (fun _ => ?_) (fun h => absurd h (by decide))
                            refine e_aload_n (i := 0) 59 dX12_kind_58 rfl rfl rfl ?_
                            refine e_getr (j := 1) 62 fl_12_13 dX12_kind_59 at_928 rfl rfl tp_928_1 rfl ?_
                            refine e_sipush 65 dX12_kind_62 (by decide) rfl ?_
                            refine e_iald 66 dX12_kind_65 ar_929 (by decide) (by decide) rfl (fun r65 => ?_)
                            refine e_istore (lsn := [(6, _), (0, _), (1, _), (2, _), (3, _), (4, _), (5, _)]) 68 dX12_kind_66 (by decide) rfl rfl ?_
                            refine e_iload 70 dX12_kind_68 rfl rfl ?_
                            refine e_bipush 72 dX12_kind_70 (by decide) rfl ?_
                            refine e_icmp_ne 75 78 dX12_kind_72 (by omega) (by decide) (by decide) rfl (fun b72 => ?_) (fun b72 => ?_)
                            · first
                               | (exfalso; omega)
                               | (skip
                                  refine e_aload_n (i := 0) 79 dX12_kind_78 rfl rfl rfl ?_
                                  refine e_getr (j := 1) 82 fl_12_13 dX12_kind_79 at_928 rfl rfl tp_928_1 rfl ?_
                                  refine e_sipush 85 dX12_kind_82 (by decide) rfl ?_
                                  refine e_iload 87 dX12_kind_85 rfl rfl ?_
                                  refine e_iadd 88 dX12_kind_87 rfl ?_
                                  refine e_iload_n (i := 1) 89 dX12_kind_88 rfl rfl rfl ?_
                                  refine e_iast 90 dX12_kind_89 ar_929 (by omega) (by omega) (by omega) rfl ?_
                                  refine e_aload_n (i := 0) 91 dX12_kind_90 rfl rfl rfl ?_
                                  refine e_getr (j := 1) 94 fl_12_13 dX12_kind_91 at_928 rfl rfl tp_928_1 rfl ?_
                                  refine e_sipush 97 dX12_kind_94 (by decide) rfl ?_
                                  refine e_iload 99 dX12_kind_97 rfl rfl ?_
                                  refine e_iadd 100 dX12_kind_99 rfl ?_
                                  refine e_iload_n (i := 2) 101 dX12_kind_100 rfl rfl rfl ?_
                                  refine e_iast 102 dX12_kind_101 ar_929 (by omega) (by omega) (by omega) rfl ?_
                                  refine e_aload_n (i := 0) 103 dX12_kind_102 rfl rfl rfl ?_
                                  refine e_getr (j := 1) 106 fl_12_13 dX12_kind_103 at_928 rfl rfl tp_928_1 rfl ?_
                                  refine e_sipush 109 dX12_kind_106 (by decide) rfl ?_
                                  refine e_iload 111 dX12_kind_109 rfl rfl ?_
                                  refine e_iadd 112 dX12_kind_111 rfl ?_
                                  refine e_iload_n (i := 3) 113 dX12_kind_112 rfl rfl rfl ?_
                                  refine e_iast 114 dX12_kind_113 ar_929 (by omega) (by omega) (by omega) rfl ?_
                                  refine e_aload_n (i := 0) 115 dX12_kind_114 rfl rfl rfl ?_
                                  refine e_getr (j := 1) 118 fl_12_13 dX12_kind_115 at_928 rfl rfl tp_928_1 rfl ?_
                                  refine e_sipush 121 dX12_kind_118 (by decide) rfl ?_
                                  refine e_iload 123 dX12_kind_121 rfl rfl ?_
                                  refine e_iadd 124 dX12_kind_123 rfl ?_
                                  refine e_iload 126 dX12_kind_124 rfl rfl ?_
                                  refine e_iast 127 dX12_kind_126 ar_929 (by omega) (by omega) (by omega) rfl ?_
                                  refine e_aload_n (i := 0) 128 dX12_kind_127 rfl rfl rfl ?_
                                  refine e_getr (j := 1) 131 fl_12_13 dX12_kind_128 at_928 rfl rfl tp_928_1 rfl ?_
                                  refine e_sipush 134 dX12_kind_131 (by decide) rfl ?_
                                  refine e_iload 136 dX12_kind_134 rfl rfl ?_
                                  refine e_iadd 137 dX12_kind_136 rfl ?_
                                  refine e_iload 139 dX12_kind_137 rfl rfl ?_
                                  refine e_if_eq 142 146 dX12_kind_139 (by omega) (by decide) rfl (fun b139 => ?_) (fun b139 => ?_)
                                  · first
                                     | (exfalso; omega)
                                     | (skip
                                        refine e_iconst 147 dX12_kind_146 rfl ?_
                                        refine e_iast 148 dX12_kind_147 ar_929 (by omega) (by omega) (by decide) rfl ?_
                                        refine e_aload_n (i := 0) 149 dX12_kind_148 rfl rfl rfl ?_
                                        refine e_getr (j := 1) 152 fl_12_13 dX12_kind_149 at_928 rfl rfl tp_928_1 rfl ?_
                                        refine e_sipush 155 dX12_kind_152 (by decide) rfl ?_
                                        refine e_dup2 156 dX12_kind_155 rfl rfl rfl ?_
                                        refine e_iald 157 dX12_kind_156 ar_929 (by decide) (by decide) rfl (fun r156 => ?_)
                                        simp (disch := omega) only [jset_k, jset_j, jset_same, true_and, and_true] at r156 ⊢
                                        refine e_iconst 158 dX12_kind_157 rfl ?_
                                        refine e_iadd 159 dX12_kind_158 rfl ?_
                                        refine e_iast 160 dX12_kind_159 ar_929 (by decide) (by decide) (by omega) rfl ?_
                                        refine e_iload 162 dX12_kind_160 rfl rfl ?_
                                        refine e_iret dX12_kind_162 ?_
                                        first
                                          | (exact ⟨by omega, hI⟩)
                                          | (exfalso; omega)
                                          | (refine ⟨by omega, ?_⟩
                                             simp only [hn.1]
                                             refine hI.live ?_ ?_ ?_
                                             · repeat (first | exact Live.rf | refine Live.c ?_ (by omega) | refine Live.r ?_ (by omega) | refine Live.s ?_ (by omega))
                                             · refine ⟨?_, ?_, ?_, ?_, ?_, ?_, ?_, ?_, ?_, ?_, ?_⟩
                                               · have h := hI.2.1.1
                                                 unfold RCnt at h ⊢
                                                 simp (disch := omega) only [jset_k, jset_j, jset_same, true_and, and_true]
                                                 omega
                                               · exact hI.2.1.2.1.fr (fun i a b => by simp (disch := omega) only [jset_k, jset_j, jset_same, true_and, and_true])
                                               · exact hI.2.1.2.2.1.fr (fun i a b => by simp (disch := omega) only [jset_k, jset_j, jset_same, true_and, and_true])
                                               · intro k h0 h1
                                                 simp (disch := omega) only [jset_k, jset_j, jset_same, true_and, and_true] at h1
                                                 by_cases e : k < M 929 582
                                                 · have h := hI.2.1.2.2.2.1 k h0 e
                                                   simp (disch := omega) only [jset_k, jset_j, jset_same, true_and, and_true]
                                                   exact h
                                                 · have e2 : k = M 929 582 := by omega
                                                   subst e2
                                                   simp (disch := omega) only [jset_k, jset_j, jset_same, true_and, and_true]
                                                   omega
                                               · exact hI.2.1.2.2.2.2.1.fr (by omega) (fun i a b => by simp (disch := omega) only [jset_k, jset_j, jset_same, true_and, and_true]) (fun i a b => by simp (disch := omega) only [jset_k, jset_j, jset_same, true_and, and_true])
                                               · exact hI.2.1.2.2.2.2.2.1.fr (by omega) (fun i a b => by simp (disch := omega) only [jset_k, jset_j, jset_same, true_and, and_true]) (fun i a b => by simp (disch := omega) only [jset_k, jset_j, jset_same, true_and, and_true]) (by simp (disch := omega) only [jset_k, jset_j, jset_same, true_and, and_true]; omega)
                                               · exact hI.2.1.2.2.2.2.2.2.1.fr (by omega) (by simp (disch := omega) only [jset_k, jset_j, jset_same, true_and, and_true]) (fun i a b => by simp (disch := omega) only [jset_k, jset_j, jset_same, true_and, and_true])
                                               · exact hI.2.1.2.2.2.2.2.2.2.1.fr (by omega) (fun i a b => by simp (disch := omega) only [jset_k, jset_j, jset_same, true_and, and_true]) (fun i a b => by simp (disch := omega) only [jset_k, jset_j, jset_same, true_and, and_true]) (by simp (disch := omega) only [jset_k, jset_j, jset_same, true_and, and_true]; omega)
                                               · exact hI.2.1.2.2.2.2.2.2.2.2.1.fr (by omega) (fun i a b => by simp (disch := omega) only [jset_k, jset_j, jset_same, true_and, and_true])
                                               · exact hI.2.1.2.2.2.2.2.2.2.2.2.1.fr (fun i a b => by simp (disch := omega) only [jset_k, jset_j, jset_same, true_and, and_true])
                                               · exact hI.2.1.2.2.2.2.2.2.2.2.2.2.fr (fun i a b => by simp (disch := omega) only [jset_k, jset_j, jset_same, true_and, and_true])
                                             · refine ⟨?_, ?_, ?_, ?_, ?_, ?_, ?_, ?_, ?_, ?_, ?_, ?_⟩
                                               · have h := hC.cnt
                                                 unfold CCnt cv
                                                 simp (disch := omega) only [jset_k, jset_j, jset_same, true_and, and_true, Int.reduceAdd]
                                                 first | omega | exact h
                                               · exact hI.2.2.1.2.1.fr hI.2.1.2.1 (by omega) (fun k j a b => by show _ = M (1 + k) j; unfold cv; simp (disch := omega) only [jset_k, jset_j, jset_same, true_and, and_true]) (fun i a b => by simp (disch := omega) only [jset_k, jset_j, jset_same, true_and, and_true])
                                               · exact hI.2.2.1.2.2.1.fr hI.2.1.2.2.1 (by omega) (fun k j a b => by show _ = M (1 + k) j; unfold cv; simp (disch := omega) only [jset_k, jset_j, jset_same, true_and, and_true]) (fun i a b => by simp (disch := omega) only [jset_k, jset_j, jset_same, true_and, and_true])
                                               · intro k h0 h1
                                                 simp (disch := omega) only [jset_k, jset_j, jset_same, true_and, and_true] at h1
                                                 simp only [cv1, Int.reduceAdd]
                                                 by_cases e : k < M 929 582
                                                 · have h := (hC.kind h0 e).1
                                                   simp (disch := omega) only [jset_k, jset_j, jset_same, true_and, and_true]
                                                   exact h
                                                 · have e2 : k = M 929 582 := by omega
                                                   subst e2
                                                   simp (disch := omega) only [jset_k, jset_j, jset_same, true_and, and_true]
                                                   all_goals (first | omega | simp)
                                               · exact hI.2.2.1.2.2.2.2.1.fr (by omega) (fun k j a b => by show _ = M (1 + k) j; unfold cv; simp (disch := omega) only [jset_k, jset_j, jset_same, true_and, and_true]) (fun i a b => by simp (disch := omega) only [jset_k, jset_j, jset_same, true_and, and_true]) (fun i a b => by simp (disch := omega) only [jset_k, jset_j, jset_same, true_and, and_true])
                                               · exact hI.2.2.1.2.2.2.2.2.1.fr (by omega) (fun k j a b => by show _ = M (1 + k) j; unfold cv; simp (disch := omega) only [jset_k, jset_j, jset_same, true_and, and_true]) (fun i a b => by simp (disch := omega) only [jset_k, jset_j, jset_same, true_and, and_true]) (fun i a b => by simp (disch := omega) only [jset_k, jset_j, jset_same, true_and, and_true])
                                               · exact hI.2.2.1.2.2.2.2.2.2.1.fr (by omega) (fun k j a b => by show _ = M (1 + k) j; unfold cv; simp (disch := omega) only [jset_k, jset_j, jset_same, true_and, and_true]) (fun i a b => by simp (disch := omega) only [jset_k, jset_j, jset_same, true_and, and_true]) (fun i a b => by simp (disch := omega) only [jset_k, jset_j, jset_same, true_and, and_true])
                                               · exact hI.2.2.1.2.2.2.2.2.2.2.1.fr (by omega) (fun k j a b => by show _ = M (1 + k) j; unfold cv; simp (disch := omega) only [jset_k, jset_j, jset_same, true_and, and_true]) (fun i a b => by simp (disch := omega) only [jset_k, jset_j, jset_same, true_and, and_true])
                                               · exact hI.2.2.1.2.2.2.2.2.2.2.2.1.fr (fun k j a b => by show _ = M (1 + k) j; unfold cv; simp (disch := omega) only [jset_k, jset_j, jset_same, true_and, and_true]) (fun i a b => by simp (disch := omega) only [jset_k, jset_j, jset_same, true_and, and_true])
                                               · exact hI.2.2.1.2.2.2.2.2.2.2.2.2.1.fr (fun k j a b => by show _ = M (1 + k) j; unfold cv; simp (disch := omega) only [jset_k, jset_j, jset_same, true_and, and_true]) (fun i a b => by simp (disch := omega) only [jset_k, jset_j, jset_same, true_and, and_true])
                                               · exact hI.2.2.1.2.2.2.2.2.2.2.2.2.2.1.fr (by omega) (fun k j a b => by show _ = M (1 + k) j; unfold cv; simp (disch := omega) only [jset_k, jset_j, jset_same, true_and, and_true]) (fun i a b => by simp (disch := omega) only [jset_k, jset_j, jset_same, true_and, and_true])
                                               · exact hI.2.2.1.2.2.2.2.2.2.2.2.2.2.2.fr hI.2.1.2.2.2.2.2.2.2.2.2.2 (fun k j a b => by show _ = M (1 + k) j; unfold cv; simp (disch := omega) only [jset_k, jset_j, jset_same, true_and, and_true]) (fun i a b => by simp (disch := omega) only [jset_k, jset_j, jset_same, true_and, and_true])))
                                  · first
                                     | (exfalso; omega)
                                     | (skip
                                        refine e_iconst 143 dX12_kind_142 rfl ?_
                                        refine e_goto 147 dX12_kind_143 (by decide) ?_
                                        refine e_iast 148 dX12_kind_147 ar_929 (by omega) (by omega) (by decide) rfl ?_
                                        refine e_aload_n (i := 0) 149 dX12_kind_148 rfl rfl rfl ?_
                                        refine e_getr (j := 1) 152 fl_12_13 dX12_kind_149 at_928 rfl rfl tp_928_1 rfl ?_
                                        refine e_sipush 155 dX12_kind_152 (by decide) rfl ?_
                                        refine e_dup2 156 dX12_kind_155 rfl rfl rfl ?_
                                        refine e_iald 157 dX12_kind_156 ar_929 (by decide) (by decide) rfl (fun r156 => ?_)
                                        simp (disch := omega) only [jset_k, jset_j, jset_same, true_and, and_true] at r156 ⊢
                                        refine e_iconst 158 dX12_kind_157 rfl ?_
                                        refine e_iadd 159 dX12_kind_158 rfl ?_
                                        refine e_iast 160 dX12_kind_159 ar_929 (by decide) (by decide) (by omega) rfl ?_
                                        refine e_iload 162 dX12_kind_160 rfl rfl ?_
                                        refine e_iret dX12_kind_162 ?_
                                        first
                                          | (exact ⟨by omega, hI⟩)
                                          | (exfalso; omega)
                                          | (refine ⟨by omega, ?_⟩
                                             simp only [hn.1]
                                             refine hI.live ?_ ?_ ?_
                                             · repeat (first | exact Live.rf | refine Live.c ?_ (by omega) | refine Live.r ?_ (by omega) | refine Live.s ?_ (by omega))
                                             · refine ⟨?_, ?_, ?_, ?_, ?_, ?_, ?_, ?_, ?_, ?_, ?_⟩
                                               · have h := hI.2.1.1
                                                 unfold RCnt at h ⊢
                                                 simp (disch := omega) only [jset_k, jset_j, jset_same, true_and, and_true]
                                                 omega
                                               · exact hI.2.1.2.1.fr (fun i a b => by simp (disch := omega) only [jset_k, jset_j, jset_same, true_and, and_true])
                                               · exact hI.2.1.2.2.1.fr (fun i a b => by simp (disch := omega) only [jset_k, jset_j, jset_same, true_and, and_true])
                                               · intro k h0 h1
                                                 simp (disch := omega) only [jset_k, jset_j, jset_same, true_and, and_true] at h1
                                                 by_cases e : k < M 929 582
                                                 · have h := hI.2.1.2.2.2.1 k h0 e
                                                   simp (disch := omega) only [jset_k, jset_j, jset_same, true_and, and_true]
                                                   exact h
                                                 · have e2 : k = M 929 582 := by omega
                                                   subst e2
                                                   simp (disch := omega) only [jset_k, jset_j, jset_same, true_and, and_true]
                                                   omega
                                               · exact hI.2.1.2.2.2.2.1.fr (by omega) (fun i a b => by simp (disch := omega) only [jset_k, jset_j, jset_same, true_and, and_true]) (fun i a b => by simp (disch := omega) only [jset_k, jset_j, jset_same, true_and, and_true])
                                               · exact hI.2.1.2.2.2.2.2.1.fr (by omega) (fun i a b => by simp (disch := omega) only [jset_k, jset_j, jset_same, true_and, and_true]) (fun i a b => by simp (disch := omega) only [jset_k, jset_j, jset_same, true_and, and_true]) (by simp (disch := omega) only [jset_k, jset_j, jset_same, true_and, and_true]; omega)
                                               · exact hI.2.1.2.2.2.2.2.2.1.fr (by omega) (by simp (disch := omega) only [jset_k, jset_j, jset_same, true_and, and_true]) (fun i a b => by simp (disch := omega) only [jset_k, jset_j, jset_same, true_and, and_true])
                                               · exact hI.2.1.2.2.2.2.2.2.2.1.fr (by omega) (fun i a b => by simp (disch := omega) only [jset_k, jset_j, jset_same, true_and, and_true]) (fun i a b => by simp (disch := omega) only [jset_k, jset_j, jset_same, true_and, and_true]) (by simp (disch := omega) only [jset_k, jset_j, jset_same, true_and, and_true]; omega)
                                               · exact hI.2.1.2.2.2.2.2.2.2.2.1.fr (by omega) (fun i a b => by simp (disch := omega) only [jset_k, jset_j, jset_same, true_and, and_true])
                                               · exact hI.2.1.2.2.2.2.2.2.2.2.2.1.fr (fun i a b => by simp (disch := omega) only [jset_k, jset_j, jset_same, true_and, and_true])
                                               · exact hI.2.1.2.2.2.2.2.2.2.2.2.2.fr (fun i a b => by simp (disch := omega) only [jset_k, jset_j, jset_same, true_and, and_true])
                                             · refine ⟨?_, ?_, ?_, ?_, ?_, ?_, ?_, ?_, ?_, ?_, ?_, ?_⟩
                                               · have h := hC.cnt
                                                 unfold CCnt cv
                                                 simp (disch := omega) only [jset_k, jset_j, jset_same, true_and, and_true, Int.reduceAdd]
                                                 first | omega | exact h
                                               · exact hI.2.2.1.2.1.fr hI.2.1.2.1 (by omega) (fun k j a b => by show _ = M (1 + k) j; unfold cv; simp (disch := omega) only [jset_k, jset_j, jset_same, true_and, and_true]) (fun i a b => by simp (disch := omega) only [jset_k, jset_j, jset_same, true_and, and_true])
                                               · exact hI.2.2.1.2.2.1.fr hI.2.1.2.2.1 (by omega) (fun k j a b => by show _ = M (1 + k) j; unfold cv; simp (disch := omega) only [jset_k, jset_j, jset_same, true_and, and_true]) (fun i a b => by simp (disch := omega) only [jset_k, jset_j, jset_same, true_and, and_true])
                                               · intro k h0 h1
                                                 simp (disch := omega) only [jset_k, jset_j, jset_same, true_and, and_true] at h1
                                                 simp only [cv1, Int.reduceAdd]
                                                 by_cases e : k < M 929 582
                                                 · have h := (hC.kind h0 e).1
                                                   simp (disch := omega) only [jset_k, jset_j, jset_same, true_and, and_true]
                                                   exact h
                                                 · have e2 : k = M 929 582 := by omega
                                                   subst e2
                                                   simp (disch := omega) only [jset_k, jset_j, jset_same, true_and, and_true]
                                                   all_goals (first | omega | simp)
                                               · exact hI.2.2.1.2.2.2.2.1.fr (by omega) (fun k j a b => by show _ = M (1 + k) j; unfold cv; simp (disch := omega) only [jset_k, jset_j, jset_same, true_and, and_true]) (fun i a b => by simp (disch := omega) only [jset_k, jset_j, jset_same, true_and, and_true]) (fun i a b => by simp (disch := omega) only [jset_k, jset_j, jset_same, true_and, and_true])
                                               · exact hI.2.2.1.2.2.2.2.2.1.fr (by omega) (fun k j a b => by show _ = M (1 + k) j; unfold cv; simp (disch := omega) only [jset_k, jset_j, jset_same, true_and, and_true]) (fun i a b => by simp (disch := omega) only [jset_k, jset_j, jset_same, true_and, and_true]) (fun i a b => by simp (disch := omega) only [jset_k, jset_j, jset_same, true_and, and_true])
                                               · exact hI.2.2.1.2.2.2.2.2.2.1.fr (by omega) (fun k j a b => by show _ = M (1 + k) j; unfold cv; simp (disch := omega) only [jset_k, jset_j, jset_same, true_and, and_true]) (fun i a b => by simp (disch := omega) only [jset_k, jset_j, jset_same, true_and, and_true]) (fun i a b => by simp (disch := omega) only [jset_k, jset_j, jset_same, true_and, and_true])
                                               · exact hI.2.2.1.2.2.2.2.2.2.2.1.fr (by omega) (fun k j a b => by show _ = M (1 + k) j; unfold cv; simp (disch := omega) only [jset_k, jset_j, jset_same, true_and, and_true]) (fun i a b => by simp (disch := omega) only [jset_k, jset_j, jset_same, true_and, and_true])
                                               · exact hI.2.2.1.2.2.2.2.2.2.2.2.1.fr (fun k j a b => by show _ = M (1 + k) j; unfold cv; simp (disch := omega) only [jset_k, jset_j, jset_same, true_and, and_true]) (fun i a b => by simp (disch := omega) only [jset_k, jset_j, jset_same, true_and, and_true])
                                               · exact hI.2.2.1.2.2.2.2.2.2.2.2.2.1.fr (fun k j a b => by show _ = M (1 + k) j; unfold cv; simp (disch := omega) only [jset_k, jset_j, jset_same, true_and, and_true]) (fun i a b => by simp (disch := omega) only [jset_k, jset_j, jset_same, true_and, and_true])
                                               · exact hI.2.2.1.2.2.2.2.2.2.2.2.2.2.1.fr (by omega) (fun k j a b => by show _ = M (1 + k) j; unfold cv; simp (disch := omega) only [jset_k, jset_j, jset_same, true_and, and_true]) (fun i a b => by simp (disch := omega) only [jset_k, jset_j, jset_same, true_and, and_true])
                                               · exact hI.2.2.1.2.2.2.2.2.2.2.2.2.2.2.fr hI.2.1.2.2.2.2.2.2.2.2.2.2 (fun k j a b => by show _ = M (1 + k) j; unfold cv; simp (disch := omega) only [jset_k, jset_j, jset_same, true_and, and_true]) (fun i a b => by simp (disch := omega) only [jset_k, jset_j, jset_same, true_and, and_true]))))
                            · first
                               | (exfalso; omega)
                               | (skip
                                  refine e_bipush 77 dX12_kind_75 (by decide) rfl ?_
                                  refine e_iret dX12_kind_77 ?_
                                  first
                                    | (exact ⟨by omega, hI⟩)
                                    | (exfalso; omega)))
                      · dsimp only [jpush]
                        first
                         | (exfalso; omega)
                         | (skip
                            refine e_if_ne 55 58 dX12_kind_52 (by decide) (by decide) rfl (fun h => absurd h (by decide)) (fun _ => ?_)
                            refine e_bipush 57 dX12_kind_55 (by decide) rfl ?_
                            refine e_iret dX12_kind_57 ?_
                            first
                              | (exact ⟨by omega, hI⟩)
                              | (exfalso; omega)))
                · dsimp only [jpush]
                  first
                   | (exfalso; omega)
                   | (skip
                      refine e_if_eq 42 55 dX12_kind_39 (by decide) (by decide) rfl (fun _ => ?_) (fun h => absurd h (by decide))
                      refine e_bipush 57 dX12_kind_55 (by decide) rfl ?_
                      refine e_iret dX12_kind_57 ?_
                      first
                        | (exact ⟨by omega, hI⟩)
                        | (exfalso; omega)))
          · dsimp only [jpush]
            first
             | (exfalso; omega)
             | (skip
                refine e_if_eq 29 55 dX12_kind_26 (by decide) (by decide) rfl (fun _ => ?_) (fun h => absurd h (by decide))
                refine e_bipush 57 dX12_kind_55 (by decide) rfl ?_
                refine e_iret dX12_kind_57 ?_
                first
                  | (exact ⟨by omega, hI⟩)
                  | (exfalso; omega)))
    · dsimp only [jpush]
      first
       | (exfalso; omega)
       | (skip
          refine e_if_eq 17 55 dX12_kind_14 (by decide) (by decide) rfl (fun _ => ?_) (fun h => absurd h (by decide))
          refine e_bipush 57 dX12_kind_55 (by decide) rfl ?_
          refine e_iret dX12_kind_57 ?_
          first
            | (exact ⟨by omega, hI⟩)
            | (exfalso; omega))

